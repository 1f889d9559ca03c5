/-! THE CONSTRUCTORS of both sides -/
theorem gc_st {ws : va_W} {i : Nat} {x : Nat × va_E} (h : ws[i]? = some x) : ws = ws.set i x ++ [] := by
  rw [List.append_nil]
  apply List.ext_getElem?
  intro j
  rw [List.getElem?_set]
  by_cases hj : i = j
  · subst hj
    rw [if_pos rfl, if_pos (List.getElem?_eq_some_iff.mp h).1]
    exact h
  · rw [if_neg hj]
theorem gc_nm {ws l e : va_W} {i : Nat} {x z z2 : Nat × va_E} (h : ws[i]? = some x) : (ws.set i z ++ l ++ e).set i z2 = ws.set i z2 ++ (l ++ e) := by
  rw [List.append_assoc, List.set_append_left i z2 (by rw [List.length_set]; exact (List.getElem?_eq_some_iff.mp h).1), List.set_set]
theorem gc_nm0 {ws l : va_W} {i : Nat} {x z z2 : Nat × va_E} (h : ws[i]? = some x) : (ws.set i z ++ l).set i z2 = ws.set i z2 ++ l := by
  rw [List.set_append_left i z2 (by rw [List.length_set]; exact (List.getElem?_eq_some_iff.mp h).1), List.set_set]
theorem GoC.pc {kc : Nat → ClassId} {y : MethodName} {cc : ByteArray} {nL fr K N p1 p2 : Nat} {L : List (Option Value)} {st : List Value} {ws : va_W} {k n : Nat} {Post : va_W → Prop} (h : p1 = p2) (g : GoC kc y cc nL fr K N p2 L st ws k n Post) : GoC kc y cc nL fr K N p1 L st ws k n Post := h ▸ g
theorem GoC.pw {kc : Nat → ClassId} {y : MethodName} {cc : ByteArray} {nL fr K N p1 p2 : Nat} {L : List (Option Value)} {st : List Value} {w1 w2 : va_W} {k n : Nat} {Post : va_W → Prop} (h : p1 = p2) (h2 : w1 = w2) (g : GoC kc y cc nL fr K N p2 L st w2 k n Post) : GoC kc y cc nL fr K N p1 L st w1 k n Post := by
  subst h h2; exact g
section gcLeaf
variable {kc : Nat → ClassId} {y : MethodName} {cc : ByteArray} {nL fr K N pc : Nat} {L : List (Option Value)} {st : List Value} {ws l : va_W} {k n : Nat} {Post : va_W → Prop} {i h ci idx j : Nat} {fs : List Value} {x : Nat × va_E}
theorem gc_mkI {v : Int32} (z : Nat) (he : ws[i]? = some x) (hf : gm_ff y.cls idx ci j (.array .int)) (hy : y.name = "<init>") (hl9 : Nat.blt j fs.length = true) (hv : v = nI z) (hz : z < 2 ^ 20) (hk : k + 1 ≤ K) (hn : n + z ≤ N) (d1 : decode cc pc = .ok (.newarray .int, 2)) (d2 : decode cc (pc + 2) = .ok (.putfield idx, 3)) (g : ∀ q : Nat, GoC kc y cc nL fr K N (pc + 2 + 3) L st (ws.set i (h, .inr (ci, fs.set j (.ref q))) ++ (l ++ [(q, .inl (kc 0, z, .inl (fun _ => 0)))])) (k + 1) (n + z) Post) : GoC kc y cc nL fr K N pc L (.int v :: .ref h :: st) (ws.set i (h, .inr (ci, fs)) ++ l) k n Post := by
  refine gc_newaI z hv hz hk hn d1 (fun q => ?_)
  refine gc_putF hf hy (lk_app (lk_app (lk_set he))) rfl rfl (Nat.le_of_ble_eq_true hl9) d2 ?_
  exact GoC.wd (gc_nm he) (g q)
theorem gc_mkJ {v : Int32} (z : Nat) (he : ws[i]? = some x) (hf : gm_ff y.cls idx ci j (.array .long)) (hy : y.name = "<init>") (hl9 : Nat.blt j fs.length = true) (hv : v = nI z) (hz : z < 2 ^ 20) (hk : k + 1 ≤ K) (hn : n + z ≤ N) (d1 : decode cc pc = .ok (.newarray .long, 2)) (d2 : decode cc (pc + 2) = .ok (.putfield idx, 3)) (g : ∀ q : Nat, GoC kc y cc nL fr K N (pc + 2 + 3) L st (ws.set i (h, .inr (ci, fs.set j (.ref q))) ++ (l ++ [(q, .inl (kc 1, z, .inr (.inl (fun _ => 0))))])) (k + 1) (n + z) Post) : GoC kc y cc nL fr K N pc L (.int v :: .ref h :: st) (ws.set i (h, .inr (ci, fs)) ++ l) k n Post := by
  refine gc_newaJ z hv hz hk hn d1 (fun q => ?_)
  refine gc_putF hf hy (lk_app (lk_app (lk_set he))) rfl rfl (Nat.le_of_ble_eq_true hl9) d2 ?_
  exact GoC.wd (gc_nm he) (g q)
theorem gc_mkZ {v : Int32} (z : Nat) (he : ws[i]? = some x) (hf : gm_ff y.cls idx ci j (.array .boolean)) (hy : y.name = "<init>") (hl9 : Nat.blt j fs.length = true) (hv : v = nI z) (hz : z < 2 ^ 20) (hk : k + 1 ≤ K) (hn : n + z ≤ N) (d1 : decode cc pc = .ok (.newarray .boolean, 2)) (d2 : decode cc (pc + 2) = .ok (.putfield idx, 3)) (g : ∀ q : Nat, GoC kc y cc nL fr K N (pc + 2 + 3) L st (ws.set i (h, .inr (ci, fs.set j (.ref q))) ++ (l ++ [(q, .inl (kc 2, z, .inl (fun _ => 0)))])) (k + 1) (n + z) Post) : GoC kc y cc nL fr K N pc L (.int v :: .ref h :: st) (ws.set i (h, .inr (ci, fs)) ++ l) k n Post := by
  refine gc_newaZ z hv hz hk hn d1 (fun q => ?_)
  refine gc_putF hf hy (lk_app (lk_app (lk_set he))) rfl rfl (Nat.le_of_ble_eq_true hl9) d2 ?_
  exact GoC.wd (gc_nm he) (g q)
theorem gc_pI {v : Int32} {ty : FieldType} (he : ws[i]? = some x) (hf : gm_fl y.cls idx ci j false ty) (h1 : narrow ty (.int v) = .int v) (h2 : fits ty (.int v) = true) (hl9 : Nat.blt j fs.length = true) (d1 : decode cc pc = .ok (.putfield idx, 3)) (g : GoC kc y cc nL fr K N (pc + 3) L st (ws.set i (h, .inr (ci, fs.set j (.int v))) ++ l) k n Post) : GoC kc y cc nL fr K N pc L (.int v :: .ref h :: st) (ws.set i (h, .inr (ci, fs)) ++ l) k n Post :=
  gc_putI hf (lk_app (lk_set he)) h1 h2 (Nat.le_of_ble_eq_true hl9) d1 (GoC.wd (gc_nm0 he) g)
theorem gc_pR {v : Nat} {C : String} (he : ws[i]? = some x) (hf : gm_ff y.cls idx ci j (.object C)) (hy : y.name = "<init>") (hl9 : Nat.blt j fs.length = true) (d1 : decode cc pc = .ok (.putfield idx, 3)) (g : GoC kc y cc nL fr K N (pc + 3) L st (ws.set i (h, .inr (ci, fs.set j (.ref v))) ++ l) k n Post) : GoC kc y cc nL fr K N pc L (.ref v :: .ref h :: st) (ws.set i (h, .inr (ci, fs)) ++ l) k n Post :=
  gc_putF hf hy (lk_app (lk_set he)) rfl rfl (Nat.le_of_ble_eq_true hl9) d1 (GoC.wd (gc_nm0 he) g)
end gcLeaf
theorem nX8 {kc : Nat → ClassId} {ws : va_W} {i h : Nat} {z : Nat} (hz : z < 2 ^ 20) (hm : (if nI z < 0 then 0 else nI z) = nI z) (he : ws[i]? = some (h, .inr (8, fsX8))) : SatC kc yX8_init cX8_init 2 1 1 z [.ref h, .int (nI z)] ws (fun ws' => ∃ q1 : Nat, ws' = ws.set i (h, .inr (8, [.ref q1, .int 0])) ++ [(q1, .inl (kc 0, z, .inl (fun _ => 0)))]) := by
  refine SatC.of (L := [some (.ref h), some (.int (nI z))]) rfl rfl rfl ?_
  refine gc_al0 dX8_init_0 ?_
  refine gc_oi obX8 rfl dX8_init_1 ?_
  refine GoC.wd (gc_st he) ?_
  refine gc_al0 dX8_init_4 ?_
  refine gc_il1 dX8_init_5 ?_
  refine gc_ic0 dX8_init_6 ?_
  refine gc_max kX8_9 rfl rfl (Nat.zero_le _) (Nat.zero_le _) dX8_init_7 ?_
  rw [hm]
  refine gc_mkI z he gX8_15 rfl rfl rfl hz (by omega) (by omega) dX8_init_10 dX8_init_12 (fun q1 => ?_)
  refine GoC.pw (p2 := 15) (w2 := ws.set i (h, .inr (8, [.ref q1, .int 0])) ++ [(q1, .inl (kc 0, z, .inl (fun _ => 0)))]) rfl rfl ?_
  exact gc_vret (by omega) (by omega) dX8_init_15 ⟨q1, rfl⟩
theorem nX4 {kc : Nat → ClassId} {ws : va_W} {i h : Nat} {z : Nat} (hz : z < 2 ^ 20) (hm : (if nI z < 0 then 0 else nI z) = nI z) (he : ws[i]? = some (h, .inr (4, fsX4))) : SatC kc yX4_init cX4_init 3 1 3 (3 * z) [.ref h, .int (nI z)] ws (fun ws' => ∃ q1 q2 q3 : Nat, ws' = ws.set i (h, .inr (4, [.ref q1, .ref q2, .ref q3, .int 0])) ++ [(q1, .inl (kc 0, z, .inl (fun _ => 0))), (q2, .inl (kc 0, z, .inl (fun _ => 0))), (q3, .inl (kc 0, z, .inl (fun _ => 0)))]) := by
  refine SatC.of (L := [some (.ref h), some (.int (nI z)), none]) rfl rfl rfl ?_
  refine gc_al0 dX4_init_0 ?_
  refine gc_oi obX4 rfl dX4_init_1 ?_
  refine GoC.wd (gc_st he) ?_
  refine gc_il1 dX4_init_4 ?_
  refine gc_ic0 dX4_init_5 ?_
  refine gc_max kX4_9 rfl rfl (Nat.zero_le _) (Nat.zero_le _) dX4_init_6 ?_
  rw [hm]
  refine gc_is2 dX4_init_9 rfl rfl ?_
  refine gc_al0 dX4_init_10 ?_
  refine gc_il2 dX4_init_11 ?_
  refine gc_mkI z he gX4_15 rfl rfl rfl hz (by omega) (by omega) dX4_init_12 dX4_init_14 (fun q1 => ?_)
  refine GoC.pw (p2 := 17) (w2 := ws.set i (h, .inr (4, [.ref q1, .null, .null, .int 0])) ++ [(q1, .inl (kc 0, z, .inl (fun _ => 0)))]) rfl rfl ?_
  refine gc_al0 dX4_init_17 ?_
  refine gc_il2 dX4_init_18 ?_
  refine gc_mkI z he gX4_21 rfl rfl rfl hz (by omega) (by omega) dX4_init_19 dX4_init_21 (fun q2 => ?_)
  refine GoC.pw (p2 := 24) (w2 := ws.set i (h, .inr (4, [.ref q1, .ref q2, .null, .int 0])) ++ [(q1, .inl (kc 0, z, .inl (fun _ => 0))), (q2, .inl (kc 0, z, .inl (fun _ => 0)))]) rfl rfl ?_
  refine gc_al0 dX4_init_24 ?_
  refine gc_il2 dX4_init_25 ?_
  refine gc_mkI z he gX4_24 rfl rfl rfl hz (by omega) (by omega) dX4_init_26 dX4_init_28 (fun q3 => ?_)
  refine GoC.pw (p2 := 31) (w2 := ws.set i (h, .inr (4, [.ref q1, .ref q2, .ref q3, .int 0])) ++ [(q1, .inl (kc 0, z, .inl (fun _ => 0))), (q2, .inl (kc 0, z, .inl (fun _ => 0))), (q3, .inl (kc 0, z, .inl (fun _ => 0)))]) rfl rfl ?_
  exact gc_vret (by omega) (by omega) dX4_init_31 ⟨q1, q2, q3, rfl⟩
theorem nX10 {kc : Nat → ClassId} {ws : va_W} {i h : Nat} (he : ws[i]? = some (h, .inr (10, fsX10))) : SatC kc yX10_init cX10_init 1 1 4 64 [.ref h] ws (fun ws' => ∃ q1 q2 q3 q4 : Nat, ws' = ws.set i (h, .inr (10, [.ref q1, .ref q2, .ref q3, .ref q4, .int 0, .int (-1), .int 0])) ++ [(q1, .inl (kc 0, 8, .inl (fun _ => 0))), (q2, .inl (kc 0, 8, .inl (fun _ => 0))), (q3, .inl (kc 0, 8, .inl (fun _ => 0))), (q4, .inl (kc 0, 40, .inl (fun _ => 0)))]) := by
  refine SatC.of (L := [some (.ref h)]) rfl rfl rfl ?_
  refine gc_al0 dX10_init_0 ?_
  refine gc_oi obX10 rfl dX10_init_1 ?_
  refine GoC.wd (gc_st he) ?_
  refine gc_al0 dX10_init_4 ?_
  refine gc_bipush (v := 8) dX10_init_5 (by decide) ?_
  refine gc_mkI 8 he gX10_9 rfl rfl (by decide) (by decide) (by omega) (by omega) dX10_init_7 dX10_init_9 (fun q1 => ?_)
  refine GoC.pw (p2 := 12) (w2 := ws.set i (h, .inr (10, [.ref q1, .null, .null, .null, .int 0, .int 0, .int 0])) ++ [(q1, .inl (kc 0, 8, .inl (fun _ => 0)))]) rfl rfl ?_
  refine gc_al0 dX10_init_12 ?_
  refine gc_bipush (v := 8) dX10_init_13 (by decide) ?_
  refine gc_mkI 8 he gX10_15 rfl rfl (by decide) (by decide) (by omega) (by omega) dX10_init_15 dX10_init_17 (fun q2 => ?_)
  refine GoC.pw (p2 := 20) (w2 := ws.set i (h, .inr (10, [.ref q1, .ref q2, .null, .null, .int 0, .int 0, .int 0])) ++ [(q1, .inl (kc 0, 8, .inl (fun _ => 0))), (q2, .inl (kc 0, 8, .inl (fun _ => 0)))]) rfl rfl ?_
  refine gc_al0 dX10_init_20 ?_
  refine gc_bipush (v := 8) dX10_init_21 (by decide) ?_
  refine gc_mkI 8 he gX10_18 rfl rfl (by decide) (by decide) (by omega) (by omega) dX10_init_23 dX10_init_25 (fun q3 => ?_)
  refine GoC.pw (p2 := 28) (w2 := ws.set i (h, .inr (10, [.ref q1, .ref q2, .ref q3, .null, .int 0, .int 0, .int 0])) ++ [(q1, .inl (kc 0, 8, .inl (fun _ => 0))), (q2, .inl (kc 0, 8, .inl (fun _ => 0))), (q3, .inl (kc 0, 8, .inl (fun _ => 0)))]) rfl rfl ?_
  refine gc_al0 dX10_init_28 ?_
  refine gc_bipush (v := 40) dX10_init_29 (by decide) ?_
  refine gc_mkI 40 he gX10_21 rfl rfl (by decide) (by decide) (by omega) (by omega) dX10_init_31 dX10_init_33 (fun q4 => ?_)
  refine GoC.pw (p2 := 36) (w2 := ws.set i (h, .inr (10, [.ref q1, .ref q2, .ref q3, .ref q4, .int 0, .int 0, .int 0])) ++ [(q1, .inl (kc 0, 8, .inl (fun _ => 0))), (q2, .inl (kc 0, 8, .inl (fun _ => 0))), (q3, .inl (kc 0, 8, .inl (fun _ => 0))), (q4, .inl (kc 0, 40, .inl (fun _ => 0)))]) rfl rfl ?_
  refine gc_al0 dX10_init_36 ?_
  refine gc_icm1 dX10_init_37 ?_
  refine gc_pI he fX10_24 rfl rfl rfl dX10_init_38 ?_
  exact gc_vret (by omega) (by omega) dX10_init_41 ⟨q1, q2, q3, q4, rfl⟩
theorem nX9 {kc : Nat → ClassId} {ws : va_W} {i h : Nat} (he : ws[i]? = some (h, .inr (9, fsX9))) : SatC kc yX9_init cX9_init 1 1 6 155 [.ref h] ws (fun ws' => ∃ q1 q2 q3 q4 q5 q6 : Nat, ws' = ws.set i (h, .inr (9, [.ref q1, .ref q2, .ref q3, .ref q4, .ref q5, .ref q6, .int 0, .int 0, .int 0, .int 0, .int 0, .int 0, .int 0, .int 0, .int 0])) ++ [(q1, .inl (kc 0, 5, .inl (fun _ => 0))), (q2, .inl (kc 0, 30, .inl (fun _ => 0))), (q3, .inl (kc 0, 30, .inl (fun _ => 0))), (q4, .inl (kc 0, 30, .inl (fun _ => 0))), (q5, .inl (kc 0, 30, .inl (fun _ => 0))), (q6, .inl (kc 0, 30, .inl (fun _ => 0)))]) := by
  refine SatC.of (L := [some (.ref h)]) rfl rfl rfl ?_
  refine gc_al0 dX9_init_0 ?_
  refine gc_oi obX9 rfl dX9_init_1 ?_
  refine GoC.wd (gc_st he) ?_
  refine gc_al0 dX9_init_4 ?_
  refine gc_ic5 dX9_init_5 ?_
  refine gc_mkI 5 he gX9_9 rfl rfl (by decide) (by decide) (by omega) (by omega) dX9_init_6 dX9_init_8 (fun q1 => ?_)
  refine GoC.pw (p2 := 11) (w2 := ws.set i (h, .inr (9, [.ref q1, .null, .null, .null, .null, .null, .int 0, .int 0, .int 0, .int 0, .int 0, .int 0, .int 0, .int 0, .int 0])) ++ [(q1, .inl (kc 0, 5, .inl (fun _ => 0)))]) rfl rfl ?_
  refine gc_al0 dX9_init_11 ?_
  refine gc_bipush (v := 30) dX9_init_12 (by decide) ?_
  refine gc_mkI 30 he gX9_15 rfl rfl (by decide) (by decide) (by omega) (by omega) dX9_init_14 dX9_init_16 (fun q2 => ?_)
  refine GoC.pw (p2 := 19) (w2 := ws.set i (h, .inr (9, [.ref q1, .ref q2, .null, .null, .null, .null, .int 0, .int 0, .int 0, .int 0, .int 0, .int 0, .int 0, .int 0, .int 0])) ++ [(q1, .inl (kc 0, 5, .inl (fun _ => 0))), (q2, .inl (kc 0, 30, .inl (fun _ => 0)))]) rfl rfl ?_
  refine gc_al0 dX9_init_19 ?_
  refine gc_bipush (v := 30) dX9_init_20 (by decide) ?_
  refine gc_mkI 30 he gX9_18 rfl rfl (by decide) (by decide) (by omega) (by omega) dX9_init_22 dX9_init_24 (fun q3 => ?_)
  refine GoC.pw (p2 := 27) (w2 := ws.set i (h, .inr (9, [.ref q1, .ref q2, .ref q3, .null, .null, .null, .int 0, .int 0, .int 0, .int 0, .int 0, .int 0, .int 0, .int 0, .int 0])) ++ [(q1, .inl (kc 0, 5, .inl (fun _ => 0))), (q2, .inl (kc 0, 30, .inl (fun _ => 0))), (q3, .inl (kc 0, 30, .inl (fun _ => 0)))]) rfl rfl ?_
  refine gc_al0 dX9_init_27 ?_
  refine gc_bipush (v := 30) dX9_init_28 (by decide) ?_
  refine gc_mkI 30 he gX9_21 rfl rfl (by decide) (by decide) (by omega) (by omega) dX9_init_30 dX9_init_32 (fun q4 => ?_)
  refine GoC.pw (p2 := 35) (w2 := ws.set i (h, .inr (9, [.ref q1, .ref q2, .ref q3, .ref q4, .null, .null, .int 0, .int 0, .int 0, .int 0, .int 0, .int 0, .int 0, .int 0, .int 0])) ++ [(q1, .inl (kc 0, 5, .inl (fun _ => 0))), (q2, .inl (kc 0, 30, .inl (fun _ => 0))), (q3, .inl (kc 0, 30, .inl (fun _ => 0))), (q4, .inl (kc 0, 30, .inl (fun _ => 0)))]) rfl rfl ?_
  refine gc_al0 dX9_init_35 ?_
  refine gc_bipush (v := 30) dX9_init_36 (by decide) ?_
  refine gc_mkI 30 he gX9_24 rfl rfl (by decide) (by decide) (by omega) (by omega) dX9_init_38 dX9_init_40 (fun q5 => ?_)
  refine GoC.pw (p2 := 43) (w2 := ws.set i (h, .inr (9, [.ref q1, .ref q2, .ref q3, .ref q4, .ref q5, .null, .int 0, .int 0, .int 0, .int 0, .int 0, .int 0, .int 0, .int 0, .int 0])) ++ [(q1, .inl (kc 0, 5, .inl (fun _ => 0))), (q2, .inl (kc 0, 30, .inl (fun _ => 0))), (q3, .inl (kc 0, 30, .inl (fun _ => 0))), (q4, .inl (kc 0, 30, .inl (fun _ => 0))), (q5, .inl (kc 0, 30, .inl (fun _ => 0)))]) rfl rfl ?_
  refine gc_al0 dX9_init_43 ?_
  refine gc_bipush (v := 30) dX9_init_44 (by decide) ?_
  refine gc_mkI 30 he gX9_27 rfl rfl (by decide) (by decide) (by omega) (by omega) dX9_init_46 dX9_init_48 (fun q6 => ?_)
  refine GoC.pw (p2 := 51) (w2 := ws.set i (h, .inr (9, [.ref q1, .ref q2, .ref q3, .ref q4, .ref q5, .ref q6, .int 0, .int 0, .int 0, .int 0, .int 0, .int 0, .int 0, .int 0, .int 0])) ++ [(q1, .inl (kc 0, 5, .inl (fun _ => 0))), (q2, .inl (kc 0, 30, .inl (fun _ => 0))), (q3, .inl (kc 0, 30, .inl (fun _ => 0))), (q4, .inl (kc 0, 30, .inl (fun _ => 0))), (q5, .inl (kc 0, 30, .inl (fun _ => 0))), (q6, .inl (kc 0, 30, .inl (fun _ => 0)))]) rfl rfl ?_
  exact gc_vret (by omega) (by omega) dX9_init_51 ⟨q1, q2, q3, q4, q5, q6, rfl⟩
theorem nX6 {kc : Nat → ClassId} {ws : va_W} {i h : Nat} (he : ws[i]? = some (h, .inr (6, fsX6))) : SatC kc yX6_init cX6_init 1 1 1 60 [.ref h] ws (fun ws' => ∃ q1 : Nat, ws' = ws.set i (h, .inr (6, [.ref q1, .int (1), .int 0, .int 0])) ++ [(q1, .inl (kc 0, 60, .inl (fun _ => 0)))]) := by
  refine SatC.of (L := [some (.ref h)]) rfl rfl rfl ?_
  refine gc_al0 dX6_init_0 ?_
  refine gc_oi obX6 rfl dX6_init_1 ?_
  refine GoC.wd (gc_st he) ?_
  refine gc_al0 dX6_init_4 ?_
  refine gc_bipush (v := 60) dX6_init_5 (by decide) ?_
  refine gc_mkI 60 he gX6_9 rfl rfl (by decide) (by decide) (by omega) (by omega) dX6_init_7 dX6_init_9 (fun q1 => ?_)
  refine GoC.pw (p2 := 12) (w2 := ws.set i (h, .inr (6, [.ref q1, .int 0, .int 0, .int 0])) ++ [(q1, .inl (kc 0, 60, .inl (fun _ => 0)))]) rfl rfl ?_
  refine gc_al0 dX6_init_12 ?_
  refine gc_ic1 dX6_init_13 ?_
  refine gc_pI he fX6_15 rfl rfl rfl dX6_init_14 ?_
  exact gc_vret (by omega) (by omega) dX6_init_17 ⟨q1, rfl⟩
theorem nX7 {kc : Nat → ClassId} {ws : va_W} {i h : Nat} {cel : Nat} (he : ws[i]? = some (h, .inr (7, fsX7))) : SatC kc yX7_init cX7_init 2 1 1 240 [.ref h, .ref cel] ws (fun ws' => ∃ q1 : Nat, ws' = ws.set i (h, .inr (7, [.ref cel, .ref q1, .int 0, .int 0, .int 0, .int 0])) ++ [(q1, .inl (kc 0, 240, .inl (fun _ => 0)))]) := by
  refine SatC.of (L := [some (.ref h), some (.ref cel)]) rfl rfl rfl ?_
  refine gc_al0 dX7_init_0 ?_
  refine gc_oi obX7 rfl dX7_init_1 ?_
  refine GoC.wd (gc_st he) ?_
  refine gc_al0 dX7_init_4 ?_
  refine gc_sipush (v := 240) dX7_init_5 (by decide) ?_
  refine gc_mkI 240 he gX7_9 rfl rfl (by decide) (by decide) (by omega) (by omega) dX7_init_8 dX7_init_10 (fun q1 => ?_)
  refine GoC.pw (p2 := 13) (w2 := ws.set i (h, .inr (7, [.null, .ref q1, .int 0, .int 0, .int 0, .int 0])) ++ [(q1, .inl (kc 0, 240, .inl (fun _ => 0)))]) rfl rfl ?_
  refine gc_al0 dX7_init_13 ?_
  refine gc_al1 dX7_init_14 ?_
  refine gc_pR he gX7_15 rfl rfl dX7_init_15 ?_
  exact gc_vret (by omega) (by omega) dX7_init_18 ⟨q1, rfl⟩
theorem nX5 {kc : Nat → ClassId} {ws : va_W} {i h : Nat} {cel : Nat} (he : ws[i]? = some (h, .inr (5, fsX5))) : SatC kc yX5_init cX5_init 2 1 3 752 [.ref h, .ref cel] ws (fun ws' => ∃ q1 q2 q3 : Nat, ws' = ws.set i (h, .inr (5, [.ref cel, .ref q1, .ref q2, .ref q3, .int 0, .int 0, .int 0, .int 0, .int 0, .int 0, .int 0])) ++ [(q1, .inl (kc 0, 240, .inl (fun _ => 0))), (q2, .inl (kc 0, 256, .inl (fun _ => 0))), (q3, .inl (kc 0, 256, .inl (fun _ => 0)))]) := by
  refine SatC.of (L := [some (.ref h), some (.ref cel)]) rfl rfl rfl ?_
  refine gc_al0 dX5_init_0 ?_
  refine gc_oi obX5 rfl dX5_init_1 ?_
  refine GoC.wd (gc_st he) ?_
  refine gc_al0 dX5_init_4 ?_
  refine gc_sipush (v := 240) dX5_init_5 (by decide) ?_
  refine gc_mkI 240 he gX5_9 rfl rfl (by decide) (by decide) (by omega) (by omega) dX5_init_8 dX5_init_10 (fun q1 => ?_)
  refine GoC.pw (p2 := 13) (w2 := ws.set i (h, .inr (5, [.null, .ref q1, .null, .null, .int 0, .int 0, .int 0, .int 0, .int 0, .int 0, .int 0])) ++ [(q1, .inl (kc 0, 240, .inl (fun _ => 0)))]) rfl rfl ?_
  refine gc_al0 dX5_init_13 ?_
  refine gc_sipush (v := 256) dX5_init_14 (by decide) ?_
  refine gc_mkI 256 he gX5_15 rfl rfl (by decide) (by decide) (by omega) (by omega) dX5_init_17 dX5_init_19 (fun q2 => ?_)
  refine GoC.pw (p2 := 22) (w2 := ws.set i (h, .inr (5, [.null, .ref q1, .ref q2, .null, .int 0, .int 0, .int 0, .int 0, .int 0, .int 0, .int 0])) ++ [(q1, .inl (kc 0, 240, .inl (fun _ => 0))), (q2, .inl (kc 0, 256, .inl (fun _ => 0)))]) rfl rfl ?_
  refine gc_al0 dX5_init_22 ?_
  refine gc_sipush (v := 256) dX5_init_23 (by decide) ?_
  refine gc_mkI 256 he gX5_18 rfl rfl (by decide) (by decide) (by omega) (by omega) dX5_init_26 dX5_init_28 (fun q3 => ?_)
  refine GoC.pw (p2 := 31) (w2 := ws.set i (h, .inr (5, [.null, .ref q1, .ref q2, .ref q3, .int 0, .int 0, .int 0, .int 0, .int 0, .int 0, .int 0])) ++ [(q1, .inl (kc 0, 240, .inl (fun _ => 0))), (q2, .inl (kc 0, 256, .inl (fun _ => 0))), (q3, .inl (kc 0, 256, .inl (fun _ => 0)))]) rfl rfl ?_
  refine gc_al0 dX5_init_31 ?_
  refine gc_al1 dX5_init_32 ?_
  refine gc_pR he gX5_21 rfl rfl dX5_init_33 ?_
  exact gc_vret (by omega) (by omega) dX5_init_36 ⟨q1, q2, q3, rfl⟩
theorem nX3 {kc : Nat → ClassId} {ws : va_W} {i h : Nat} {cel : Nat} (he : ws[i]? = some (h, .inr (3, fsX3))) : SatC kc yX3_init cX3_init 2 1 1 270 [.ref h, .ref cel] ws (fun ws' => ∃ q1 : Nat, ws' = ws.set i (h, .inr (3, [.ref cel, .ref q1])) ++ [(q1, .inl (kc 0, 270, .inl (fun _ => 0)))]) := by
  refine SatC.of (L := [some (.ref h), some (.ref cel)]) rfl rfl rfl ?_
  refine gc_al0 dX3_init_0 ?_
  refine gc_oi obX3 rfl dX3_init_1 ?_
  refine GoC.wd (gc_st he) ?_
  refine gc_al0 dX3_init_4 ?_
  refine gc_sipush (v := 270) dX3_init_5 (by decide) ?_
  refine gc_mkI 270 he gX3_11 rfl rfl (by decide) (by decide) (by omega) (by omega) dX3_init_8 dX3_init_10 (fun q1 => ?_)
  refine GoC.pw (p2 := 13) (w2 := ws.set i (h, .inr (3, [.null, .ref q1])) ++ [(q1, .inl (kc 0, 270, .inl (fun _ => 0)))]) rfl rfl ?_
  refine gc_al0 dX3_init_13 ?_
  refine gc_al1 dX3_init_14 ?_
  refine gc_pR he gX3_15 rfl rfl dX3_init_15 ?_
  exact gc_vret (by omega) (by omega) dX3_init_18 ⟨q1, rfl⟩
theorem nX2 {kc : Nat → ClassId} {ws : va_W} {i h : Nat} {cel : Nat} (he : ws[i]? = some (h, .inr (2, fsX2))) : SatC kc yX2_init cX2_init 2 1 2 200 [.ref h, .ref cel] ws (fun ws' => ∃ q1 q2 : Nat, ws' = ws.set i (h, .inr (2, [.ref cel, .ref q1, .ref q2, .long 0, .long 0, .int 0, .int 0])) ++ [(q1, .inl (kc 1, 100, .inr (.inl (fun _ => 0)))), (q2, .inl (kc 1, 100, .inr (.inl (fun _ => 0))))]) := by
  refine SatC.of (L := [some (.ref h), some (.ref cel)]) rfl rfl rfl ?_
  refine gc_al0 dX2_init_0 ?_
  refine gc_oi obX2 rfl dX2_init_1 ?_
  refine GoC.wd (gc_st he) ?_
  refine gc_al0 dX2_init_4 ?_
  refine gc_bipush (v := 100) dX2_init_5 (by decide) ?_
  refine gc_mkJ 100 he gX2_9 rfl rfl (by decide) (by decide) (by omega) (by omega) dX2_init_7 dX2_init_9 (fun q1 => ?_)
  refine GoC.pw (p2 := 12) (w2 := ws.set i (h, .inr (2, [.null, .ref q1, .null, .long 0, .long 0, .int 0, .int 0])) ++ [(q1, .inl (kc 1, 100, .inr (.inl (fun _ => 0))))]) rfl rfl ?_
  refine gc_al0 dX2_init_12 ?_
  refine gc_bipush (v := 100) dX2_init_13 (by decide) ?_
  refine gc_mkJ 100 he gX2_15 rfl rfl (by decide) (by decide) (by omega) (by omega) dX2_init_15 dX2_init_17 (fun q2 => ?_)
  refine GoC.pw (p2 := 20) (w2 := ws.set i (h, .inr (2, [.null, .ref q1, .ref q2, .long 0, .long 0, .int 0, .int 0])) ++ [(q1, .inl (kc 1, 100, .inr (.inl (fun _ => 0)))), (q2, .inl (kc 1, 100, .inr (.inl (fun _ => 0))))]) rfl rfl ?_
  refine gc_al0 dX2_init_20 ?_
  refine gc_al1 dX2_init_21 ?_
  refine gc_pR he gX2_18 rfl rfl dX2_init_22 ?_
  exact gc_vret (by omega) (by omega) dX2_init_25 ⟨q1, q2, rfl⟩
theorem nX12 {kc : Nat → ClassId} {ws : va_W} {i h : Nat} (he : ws[i]? = some (h, .inr (12, fsX12))) : SatC kc yX12_init cX12_init 1 1 28 1854 [.ref h] ws (fun ws' => ∃ q1 q2 q3 q4 q5 q6 q7 q8 q9 q10 q11 q12 q13 q14 q15 q16 q17 q18 q19 q20 q21 q22 q23 q24 q25 q26 q27 q28 : Nat, ws' = ws.set i (h, .inr (12, [.ref q1, .ref q2, .int 0, .ref q3, .ref q4, .ref q5, .ref q6, .int 0, .ref q7, .int (8), .int (7), .int 0, .ref q8, .ref q9, .int 0, .ref q10, .ref q11, .ref q12, .int 0, .int 0, .ref q13, .ref q14, .ref q15, .ref q16, .ref q17, .ref q18, .ref q19, .int 0, .ref q20, .ref q21, .ref q22, .ref q23, .ref q24, .ref q25, .ref q26, .ref q27, .ref q28, .int 0])) ++ [(q1, .inl (kc 0, 2, .inl (fun _ => 0))), (q2, .inl (kc 0, 142, .inl (fun _ => 0))), (q3, .inl (kc 0, 9, .inl (fun _ => 0))), (q4, .inl (kc 0, 9, .inl (fun _ => 0))), (q5, .inl (kc 0, 9, .inl (fun _ => 0))), (q6, .inl (kc 0, 45, .inl (fun _ => 0))), (q7, .inl (kc 0, 30, .inl (fun _ => 0))), (q8, .inl (kc 0, 8, .inl (fun _ => 0))), (q9, .inl (kc 0, 8, .inl (fun _ => 0))), (q10, .inl (kc 0, 4, .inl (fun _ => 0))), (q11, .inl (kc 0, 4, .inl (fun _ => 0))), (q12, .inl (kc 0, 30, .inl (fun _ => 0))), (q13, .inl (kc 0, 30, .inl (fun _ => 0))), (q14, .inl (kc 0, 30, .inl (fun _ => 0))), (q15, .inl (kc 0, 30, .inl (fun _ => 0))), (q16, .inl (kc 0, 30, .inl (fun _ => 0))), (q17, .inl (kc 0, 2, .inl (fun _ => 0))), (q18, .inl (kc 0, 240, .inl (fun _ => 0))), (q19, .inl (kc 0, 256, .inl (fun _ => 0))), (q20, .inl (kc 0, 8, .inl (fun _ => 0))), (q21, .inl (kc 0, 8, .inl (fun _ => 0))), (q22, .inl (kc 0, 8, .inl (fun _ => 0))), (q23, .inl (kc 0, 600, .inl (fun _ => 0))), (q24, .inl (kc 2, 4, .inl (fun _ => 0))), (q25, .inl (kc 0, 4, .inl (fun _ => 0))), (q26, .inl (kc 0, 4, .inl (fun _ => 0))), (q27, .inl (kc 0, 240, .inl (fun _ => 0))), (q28, .inl (kc 0, 60, .inl (fun _ => 0)))]) := by
  refine SatC.of (L := [some (.ref h)]) rfl rfl rfl ?_
  refine gc_al0 dX12_init_0 ?_
  refine gc_oi obX12 rfl dX12_init_1 ?_
  refine GoC.wd (gc_st he) ?_
  refine gc_al0 dX12_init_4 ?_
  refine gc_ic2 dX12_init_5 ?_
  refine gc_mkI 2 he gX12_7 rfl rfl (by decide) (by decide) (by omega) (by omega) dX12_init_6 dX12_init_8 (fun q1 => ?_)
  refine GoC.pw (p2 := 11) (w2 := ws.set i (h, .inr (12, [.ref q1, .null, .int 0, .null, .null, .null, .null, .int 0, .null, .int 0, .int 0, .int 0, .null, .null, .int 0, .null, .null, .null, .int 0, .int 0, .null, .null, .null, .null, .null, .null, .null, .int 0, .null, .null, .null, .null, .null, .null, .null, .null, .null, .int 0])) ++ [(q1, .inl (kc 0, 2, .inl (fun _ => 0)))]) rfl rfl ?_
  refine gc_al0 dX12_init_11 ?_
  refine gc_sipush (v := 142) dX12_init_12 (by decide) ?_
  refine gc_mkI 142 he gX12_13 rfl rfl (by decide) (by decide) (by omega) (by omega) dX12_init_15 dX12_init_17 (fun q2 => ?_)
  refine GoC.pw (p2 := 20) (w2 := ws.set i (h, .inr (12, [.ref q1, .ref q2, .int 0, .null, .null, .null, .null, .int 0, .null, .int 0, .int 0, .int 0, .null, .null, .int 0, .null, .null, .null, .int 0, .int 0, .null, .null, .null, .null, .null, .null, .null, .int 0, .null, .null, .null, .null, .null, .null, .null, .null, .null, .int 0])) ++ [(q1, .inl (kc 0, 2, .inl (fun _ => 0))), (q2, .inl (kc 0, 142, .inl (fun _ => 0)))]) rfl rfl ?_
  refine gc_al0 dX12_init_20 ?_
  refine gc_bipush (v := 9) dX12_init_21 (by decide) ?_
  refine gc_mkI 9 he gX12_16 rfl rfl (by decide) (by decide) (by omega) (by omega) dX12_init_23 dX12_init_25 (fun q3 => ?_)
  refine GoC.pw (p2 := 28) (w2 := ws.set i (h, .inr (12, [.ref q1, .ref q2, .int 0, .ref q3, .null, .null, .null, .int 0, .null, .int 0, .int 0, .int 0, .null, .null, .int 0, .null, .null, .null, .int 0, .int 0, .null, .null, .null, .null, .null, .null, .null, .int 0, .null, .null, .null, .null, .null, .null, .null, .null, .null, .int 0])) ++ [(q1, .inl (kc 0, 2, .inl (fun _ => 0))), (q2, .inl (kc 0, 142, .inl (fun _ => 0))), (q3, .inl (kc 0, 9, .inl (fun _ => 0)))]) rfl rfl ?_
  refine gc_al0 dX12_init_28 ?_
  refine gc_bipush (v := 9) dX12_init_29 (by decide) ?_
  refine gc_mkI 9 he gX12_19 rfl rfl (by decide) (by decide) (by omega) (by omega) dX12_init_31 dX12_init_33 (fun q4 => ?_)
  refine GoC.pw (p2 := 36) (w2 := ws.set i (h, .inr (12, [.ref q1, .ref q2, .int 0, .ref q3, .ref q4, .null, .null, .int 0, .null, .int 0, .int 0, .int 0, .null, .null, .int 0, .null, .null, .null, .int 0, .int 0, .null, .null, .null, .null, .null, .null, .null, .int 0, .null, .null, .null, .null, .null, .null, .null, .null, .null, .int 0])) ++ [(q1, .inl (kc 0, 2, .inl (fun _ => 0))), (q2, .inl (kc 0, 142, .inl (fun _ => 0))), (q3, .inl (kc 0, 9, .inl (fun _ => 0))), (q4, .inl (kc 0, 9, .inl (fun _ => 0)))]) rfl rfl ?_
  refine gc_al0 dX12_init_36 ?_
  refine gc_bipush (v := 9) dX12_init_37 (by decide) ?_
  refine gc_mkI 9 he gX12_22 rfl rfl (by decide) (by decide) (by omega) (by omega) dX12_init_39 dX12_init_41 (fun q5 => ?_)
  refine GoC.pw (p2 := 44) (w2 := ws.set i (h, .inr (12, [.ref q1, .ref q2, .int 0, .ref q3, .ref q4, .ref q5, .null, .int 0, .null, .int 0, .int 0, .int 0, .null, .null, .int 0, .null, .null, .null, .int 0, .int 0, .null, .null, .null, .null, .null, .null, .null, .int 0, .null, .null, .null, .null, .null, .null, .null, .null, .null, .int 0])) ++ [(q1, .inl (kc 0, 2, .inl (fun _ => 0))), (q2, .inl (kc 0, 142, .inl (fun _ => 0))), (q3, .inl (kc 0, 9, .inl (fun _ => 0))), (q4, .inl (kc 0, 9, .inl (fun _ => 0))), (q5, .inl (kc 0, 9, .inl (fun _ => 0)))]) rfl rfl ?_
  refine gc_al0 dX12_init_44 ?_
  refine gc_bipush (v := 45) dX12_init_45 (by decide) ?_
  refine gc_mkI 45 he gX12_25 rfl rfl (by decide) (by decide) (by omega) (by omega) dX12_init_47 dX12_init_49 (fun q6 => ?_)
  refine GoC.pw (p2 := 52) (w2 := ws.set i (h, .inr (12, [.ref q1, .ref q2, .int 0, .ref q3, .ref q4, .ref q5, .ref q6, .int 0, .null, .int 0, .int 0, .int 0, .null, .null, .int 0, .null, .null, .null, .int 0, .int 0, .null, .null, .null, .null, .null, .null, .null, .int 0, .null, .null, .null, .null, .null, .null, .null, .null, .null, .int 0])) ++ [(q1, .inl (kc 0, 2, .inl (fun _ => 0))), (q2, .inl (kc 0, 142, .inl (fun _ => 0))), (q3, .inl (kc 0, 9, .inl (fun _ => 0))), (q4, .inl (kc 0, 9, .inl (fun _ => 0))), (q5, .inl (kc 0, 9, .inl (fun _ => 0))), (q6, .inl (kc 0, 45, .inl (fun _ => 0)))]) rfl rfl ?_
  refine gc_al0 dX12_init_52 ?_
  refine gc_bipush (v := 30) dX12_init_53 (by decide) ?_
  refine gc_mkI 30 he gX12_28 rfl rfl (by decide) (by decide) (by omega) (by omega) dX12_init_55 dX12_init_57 (fun q7 => ?_)
  refine GoC.pw (p2 := 60) (w2 := ws.set i (h, .inr (12, [.ref q1, .ref q2, .int 0, .ref q3, .ref q4, .ref q5, .ref q6, .int 0, .ref q7, .int 0, .int 0, .int 0, .null, .null, .int 0, .null, .null, .null, .int 0, .int 0, .null, .null, .null, .null, .null, .null, .null, .int 0, .null, .null, .null, .null, .null, .null, .null, .null, .null, .int 0])) ++ [(q1, .inl (kc 0, 2, .inl (fun _ => 0))), (q2, .inl (kc 0, 142, .inl (fun _ => 0))), (q3, .inl (kc 0, 9, .inl (fun _ => 0))), (q4, .inl (kc 0, 9, .inl (fun _ => 0))), (q5, .inl (kc 0, 9, .inl (fun _ => 0))), (q6, .inl (kc 0, 45, .inl (fun _ => 0))), (q7, .inl (kc 0, 30, .inl (fun _ => 0)))]) rfl rfl ?_
  refine gc_al0 dX12_init_60 ?_
  refine gc_bipush (v := 8) dX12_init_61 (by decide) ?_
  refine gc_mkI 8 he gX12_31 rfl rfl (by decide) (by decide) (by omega) (by omega) dX12_init_63 dX12_init_65 (fun q8 => ?_)
  refine GoC.pw (p2 := 68) (w2 := ws.set i (h, .inr (12, [.ref q1, .ref q2, .int 0, .ref q3, .ref q4, .ref q5, .ref q6, .int 0, .ref q7, .int 0, .int 0, .int 0, .ref q8, .null, .int 0, .null, .null, .null, .int 0, .int 0, .null, .null, .null, .null, .null, .null, .null, .int 0, .null, .null, .null, .null, .null, .null, .null, .null, .null, .int 0])) ++ [(q1, .inl (kc 0, 2, .inl (fun _ => 0))), (q2, .inl (kc 0, 142, .inl (fun _ => 0))), (q3, .inl (kc 0, 9, .inl (fun _ => 0))), (q4, .inl (kc 0, 9, .inl (fun _ => 0))), (q5, .inl (kc 0, 9, .inl (fun _ => 0))), (q6, .inl (kc 0, 45, .inl (fun _ => 0))), (q7, .inl (kc 0, 30, .inl (fun _ => 0))), (q8, .inl (kc 0, 8, .inl (fun _ => 0)))]) rfl rfl ?_
  refine gc_al0 dX12_init_68 ?_
  refine gc_bipush (v := 8) dX12_init_69 (by decide) ?_
  refine gc_mkI 8 he gX12_34 rfl rfl (by decide) (by decide) (by omega) (by omega) dX12_init_71 dX12_init_73 (fun q9 => ?_)
  refine GoC.pw (p2 := 76) (w2 := ws.set i (h, .inr (12, [.ref q1, .ref q2, .int 0, .ref q3, .ref q4, .ref q5, .ref q6, .int 0, .ref q7, .int 0, .int 0, .int 0, .ref q8, .ref q9, .int 0, .null, .null, .null, .int 0, .int 0, .null, .null, .null, .null, .null, .null, .null, .int 0, .null, .null, .null, .null, .null, .null, .null, .null, .null, .int 0])) ++ [(q1, .inl (kc 0, 2, .inl (fun _ => 0))), (q2, .inl (kc 0, 142, .inl (fun _ => 0))), (q3, .inl (kc 0, 9, .inl (fun _ => 0))), (q4, .inl (kc 0, 9, .inl (fun _ => 0))), (q5, .inl (kc 0, 9, .inl (fun _ => 0))), (q6, .inl (kc 0, 45, .inl (fun _ => 0))), (q7, .inl (kc 0, 30, .inl (fun _ => 0))), (q8, .inl (kc 0, 8, .inl (fun _ => 0))), (q9, .inl (kc 0, 8, .inl (fun _ => 0)))]) rfl rfl ?_
  refine gc_al0 dX12_init_76 ?_
  refine gc_ic4 dX12_init_77 ?_
  refine gc_mkI 4 he gX12_37 rfl rfl (by decide) (by decide) (by omega) (by omega) dX12_init_78 dX12_init_80 (fun q10 => ?_)
  refine GoC.pw (p2 := 83) (w2 := ws.set i (h, .inr (12, [.ref q1, .ref q2, .int 0, .ref q3, .ref q4, .ref q5, .ref q6, .int 0, .ref q7, .int 0, .int 0, .int 0, .ref q8, .ref q9, .int 0, .ref q10, .null, .null, .int 0, .int 0, .null, .null, .null, .null, .null, .null, .null, .int 0, .null, .null, .null, .null, .null, .null, .null, .null, .null, .int 0])) ++ [(q1, .inl (kc 0, 2, .inl (fun _ => 0))), (q2, .inl (kc 0, 142, .inl (fun _ => 0))), (q3, .inl (kc 0, 9, .inl (fun _ => 0))), (q4, .inl (kc 0, 9, .inl (fun _ => 0))), (q5, .inl (kc 0, 9, .inl (fun _ => 0))), (q6, .inl (kc 0, 45, .inl (fun _ => 0))), (q7, .inl (kc 0, 30, .inl (fun _ => 0))), (q8, .inl (kc 0, 8, .inl (fun _ => 0))), (q9, .inl (kc 0, 8, .inl (fun _ => 0))), (q10, .inl (kc 0, 4, .inl (fun _ => 0)))]) rfl rfl ?_
  refine gc_al0 dX12_init_83 ?_
  refine gc_ic4 dX12_init_84 ?_
  refine gc_mkI 4 he gX12_40 rfl rfl (by decide) (by decide) (by omega) (by omega) dX12_init_85 dX12_init_87 (fun q11 => ?_)
  refine GoC.pw (p2 := 90) (w2 := ws.set i (h, .inr (12, [.ref q1, .ref q2, .int 0, .ref q3, .ref q4, .ref q5, .ref q6, .int 0, .ref q7, .int 0, .int 0, .int 0, .ref q8, .ref q9, .int 0, .ref q10, .ref q11, .null, .int 0, .int 0, .null, .null, .null, .null, .null, .null, .null, .int 0, .null, .null, .null, .null, .null, .null, .null, .null, .null, .int 0])) ++ [(q1, .inl (kc 0, 2, .inl (fun _ => 0))), (q2, .inl (kc 0, 142, .inl (fun _ => 0))), (q3, .inl (kc 0, 9, .inl (fun _ => 0))), (q4, .inl (kc 0, 9, .inl (fun _ => 0))), (q5, .inl (kc 0, 9, .inl (fun _ => 0))), (q6, .inl (kc 0, 45, .inl (fun _ => 0))), (q7, .inl (kc 0, 30, .inl (fun _ => 0))), (q8, .inl (kc 0, 8, .inl (fun _ => 0))), (q9, .inl (kc 0, 8, .inl (fun _ => 0))), (q10, .inl (kc 0, 4, .inl (fun _ => 0))), (q11, .inl (kc 0, 4, .inl (fun _ => 0)))]) rfl rfl ?_
  refine gc_al0 dX12_init_90 ?_
  refine gc_bipush (v := 30) dX12_init_91 (by decide) ?_
  refine gc_mkI 30 he gX12_43 rfl rfl (by decide) (by decide) (by omega) (by omega) dX12_init_93 dX12_init_95 (fun q12 => ?_)
  refine GoC.pw (p2 := 98) (w2 := ws.set i (h, .inr (12, [.ref q1, .ref q2, .int 0, .ref q3, .ref q4, .ref q5, .ref q6, .int 0, .ref q7, .int 0, .int 0, .int 0, .ref q8, .ref q9, .int 0, .ref q10, .ref q11, .ref q12, .int 0, .int 0, .null, .null, .null, .null, .null, .null, .null, .int 0, .null, .null, .null, .null, .null, .null, .null, .null, .null, .int 0])) ++ [(q1, .inl (kc 0, 2, .inl (fun _ => 0))), (q2, .inl (kc 0, 142, .inl (fun _ => 0))), (q3, .inl (kc 0, 9, .inl (fun _ => 0))), (q4, .inl (kc 0, 9, .inl (fun _ => 0))), (q5, .inl (kc 0, 9, .inl (fun _ => 0))), (q6, .inl (kc 0, 45, .inl (fun _ => 0))), (q7, .inl (kc 0, 30, .inl (fun _ => 0))), (q8, .inl (kc 0, 8, .inl (fun _ => 0))), (q9, .inl (kc 0, 8, .inl (fun _ => 0))), (q10, .inl (kc 0, 4, .inl (fun _ => 0))), (q11, .inl (kc 0, 4, .inl (fun _ => 0))), (q12, .inl (kc 0, 30, .inl (fun _ => 0)))]) rfl rfl ?_
  refine gc_al0 dX12_init_98 ?_
  refine gc_bipush (v := 30) dX12_init_99 (by decide) ?_
  refine gc_mkI 30 he gX12_46 rfl rfl (by decide) (by decide) (by omega) (by omega) dX12_init_101 dX12_init_103 (fun q13 => ?_)
  refine GoC.pw (p2 := 106) (w2 := ws.set i (h, .inr (12, [.ref q1, .ref q2, .int 0, .ref q3, .ref q4, .ref q5, .ref q6, .int 0, .ref q7, .int 0, .int 0, .int 0, .ref q8, .ref q9, .int 0, .ref q10, .ref q11, .ref q12, .int 0, .int 0, .ref q13, .null, .null, .null, .null, .null, .null, .int 0, .null, .null, .null, .null, .null, .null, .null, .null, .null, .int 0])) ++ [(q1, .inl (kc 0, 2, .inl (fun _ => 0))), (q2, .inl (kc 0, 142, .inl (fun _ => 0))), (q3, .inl (kc 0, 9, .inl (fun _ => 0))), (q4, .inl (kc 0, 9, .inl (fun _ => 0))), (q5, .inl (kc 0, 9, .inl (fun _ => 0))), (q6, .inl (kc 0, 45, .inl (fun _ => 0))), (q7, .inl (kc 0, 30, .inl (fun _ => 0))), (q8, .inl (kc 0, 8, .inl (fun _ => 0))), (q9, .inl (kc 0, 8, .inl (fun _ => 0))), (q10, .inl (kc 0, 4, .inl (fun _ => 0))), (q11, .inl (kc 0, 4, .inl (fun _ => 0))), (q12, .inl (kc 0, 30, .inl (fun _ => 0))), (q13, .inl (kc 0, 30, .inl (fun _ => 0)))]) rfl rfl ?_
  refine gc_al0 dX12_init_106 ?_
  refine gc_bipush (v := 30) dX12_init_107 (by decide) ?_
  refine gc_mkI 30 he gX12_49 rfl rfl (by decide) (by decide) (by omega) (by omega) dX12_init_109 dX12_init_111 (fun q14 => ?_)
  refine GoC.pw (p2 := 114) (w2 := ws.set i (h, .inr (12, [.ref q1, .ref q2, .int 0, .ref q3, .ref q4, .ref q5, .ref q6, .int 0, .ref q7, .int 0, .int 0, .int 0, .ref q8, .ref q9, .int 0, .ref q10, .ref q11, .ref q12, .int 0, .int 0, .ref q13, .ref q14, .null, .null, .null, .null, .null, .int 0, .null, .null, .null, .null, .null, .null, .null, .null, .null, .int 0])) ++ [(q1, .inl (kc 0, 2, .inl (fun _ => 0))), (q2, .inl (kc 0, 142, .inl (fun _ => 0))), (q3, .inl (kc 0, 9, .inl (fun _ => 0))), (q4, .inl (kc 0, 9, .inl (fun _ => 0))), (q5, .inl (kc 0, 9, .inl (fun _ => 0))), (q6, .inl (kc 0, 45, .inl (fun _ => 0))), (q7, .inl (kc 0, 30, .inl (fun _ => 0))), (q8, .inl (kc 0, 8, .inl (fun _ => 0))), (q9, .inl (kc 0, 8, .inl (fun _ => 0))), (q10, .inl (kc 0, 4, .inl (fun _ => 0))), (q11, .inl (kc 0, 4, .inl (fun _ => 0))), (q12, .inl (kc 0, 30, .inl (fun _ => 0))), (q13, .inl (kc 0, 30, .inl (fun _ => 0))), (q14, .inl (kc 0, 30, .inl (fun _ => 0)))]) rfl rfl ?_
  refine gc_al0 dX12_init_114 ?_
  refine gc_bipush (v := 30) dX12_init_115 (by decide) ?_
  refine gc_mkI 30 he gX12_52 rfl rfl (by decide) (by decide) (by omega) (by omega) dX12_init_117 dX12_init_119 (fun q15 => ?_)
  refine GoC.pw (p2 := 122) (w2 := ws.set i (h, .inr (12, [.ref q1, .ref q2, .int 0, .ref q3, .ref q4, .ref q5, .ref q6, .int 0, .ref q7, .int 0, .int 0, .int 0, .ref q8, .ref q9, .int 0, .ref q10, .ref q11, .ref q12, .int 0, .int 0, .ref q13, .ref q14, .ref q15, .null, .null, .null, .null, .int 0, .null, .null, .null, .null, .null, .null, .null, .null, .null, .int 0])) ++ [(q1, .inl (kc 0, 2, .inl (fun _ => 0))), (q2, .inl (kc 0, 142, .inl (fun _ => 0))), (q3, .inl (kc 0, 9, .inl (fun _ => 0))), (q4, .inl (kc 0, 9, .inl (fun _ => 0))), (q5, .inl (kc 0, 9, .inl (fun _ => 0))), (q6, .inl (kc 0, 45, .inl (fun _ => 0))), (q7, .inl (kc 0, 30, .inl (fun _ => 0))), (q8, .inl (kc 0, 8, .inl (fun _ => 0))), (q9, .inl (kc 0, 8, .inl (fun _ => 0))), (q10, .inl (kc 0, 4, .inl (fun _ => 0))), (q11, .inl (kc 0, 4, .inl (fun _ => 0))), (q12, .inl (kc 0, 30, .inl (fun _ => 0))), (q13, .inl (kc 0, 30, .inl (fun _ => 0))), (q14, .inl (kc 0, 30, .inl (fun _ => 0))), (q15, .inl (kc 0, 30, .inl (fun _ => 0)))]) rfl rfl ?_
  refine gc_al0 dX12_init_122 ?_
  refine gc_bipush (v := 30) dX12_init_123 (by decide) ?_
  refine gc_mkI 30 he gX12_55 rfl rfl (by decide) (by decide) (by omega) (by omega) dX12_init_125 dX12_init_127 (fun q16 => ?_)
  refine GoC.pw (p2 := 130) (w2 := ws.set i (h, .inr (12, [.ref q1, .ref q2, .int 0, .ref q3, .ref q4, .ref q5, .ref q6, .int 0, .ref q7, .int 0, .int 0, .int 0, .ref q8, .ref q9, .int 0, .ref q10, .ref q11, .ref q12, .int 0, .int 0, .ref q13, .ref q14, .ref q15, .ref q16, .null, .null, .null, .int 0, .null, .null, .null, .null, .null, .null, .null, .null, .null, .int 0])) ++ [(q1, .inl (kc 0, 2, .inl (fun _ => 0))), (q2, .inl (kc 0, 142, .inl (fun _ => 0))), (q3, .inl (kc 0, 9, .inl (fun _ => 0))), (q4, .inl (kc 0, 9, .inl (fun _ => 0))), (q5, .inl (kc 0, 9, .inl (fun _ => 0))), (q6, .inl (kc 0, 45, .inl (fun _ => 0))), (q7, .inl (kc 0, 30, .inl (fun _ => 0))), (q8, .inl (kc 0, 8, .inl (fun _ => 0))), (q9, .inl (kc 0, 8, .inl (fun _ => 0))), (q10, .inl (kc 0, 4, .inl (fun _ => 0))), (q11, .inl (kc 0, 4, .inl (fun _ => 0))), (q12, .inl (kc 0, 30, .inl (fun _ => 0))), (q13, .inl (kc 0, 30, .inl (fun _ => 0))), (q14, .inl (kc 0, 30, .inl (fun _ => 0))), (q15, .inl (kc 0, 30, .inl (fun _ => 0))), (q16, .inl (kc 0, 30, .inl (fun _ => 0)))]) rfl rfl ?_
  refine gc_al0 dX12_init_130 ?_
  refine gc_ic2 dX12_init_131 ?_
  refine gc_mkI 2 he gX12_58 rfl rfl (by decide) (by decide) (by omega) (by omega) dX12_init_132 dX12_init_134 (fun q17 => ?_)
  refine GoC.pw (p2 := 137) (w2 := ws.set i (h, .inr (12, [.ref q1, .ref q2, .int 0, .ref q3, .ref q4, .ref q5, .ref q6, .int 0, .ref q7, .int 0, .int 0, .int 0, .ref q8, .ref q9, .int 0, .ref q10, .ref q11, .ref q12, .int 0, .int 0, .ref q13, .ref q14, .ref q15, .ref q16, .ref q17, .null, .null, .int 0, .null, .null, .null, .null, .null, .null, .null, .null, .null, .int 0])) ++ [(q1, .inl (kc 0, 2, .inl (fun _ => 0))), (q2, .inl (kc 0, 142, .inl (fun _ => 0))), (q3, .inl (kc 0, 9, .inl (fun _ => 0))), (q4, .inl (kc 0, 9, .inl (fun _ => 0))), (q5, .inl (kc 0, 9, .inl (fun _ => 0))), (q6, .inl (kc 0, 45, .inl (fun _ => 0))), (q7, .inl (kc 0, 30, .inl (fun _ => 0))), (q8, .inl (kc 0, 8, .inl (fun _ => 0))), (q9, .inl (kc 0, 8, .inl (fun _ => 0))), (q10, .inl (kc 0, 4, .inl (fun _ => 0))), (q11, .inl (kc 0, 4, .inl (fun _ => 0))), (q12, .inl (kc 0, 30, .inl (fun _ => 0))), (q13, .inl (kc 0, 30, .inl (fun _ => 0))), (q14, .inl (kc 0, 30, .inl (fun _ => 0))), (q15, .inl (kc 0, 30, .inl (fun _ => 0))), (q16, .inl (kc 0, 30, .inl (fun _ => 0))), (q17, .inl (kc 0, 2, .inl (fun _ => 0)))]) rfl rfl ?_
  refine gc_al0 dX12_init_137 ?_
  refine gc_sipush (v := 240) dX12_init_138 (by decide) ?_
  refine gc_mkI 240 he gX12_61 rfl rfl (by decide) (by decide) (by omega) (by omega) dX12_init_141 dX12_init_143 (fun q18 => ?_)
  refine GoC.pw (p2 := 146) (w2 := ws.set i (h, .inr (12, [.ref q1, .ref q2, .int 0, .ref q3, .ref q4, .ref q5, .ref q6, .int 0, .ref q7, .int 0, .int 0, .int 0, .ref q8, .ref q9, .int 0, .ref q10, .ref q11, .ref q12, .int 0, .int 0, .ref q13, .ref q14, .ref q15, .ref q16, .ref q17, .ref q18, .null, .int 0, .null, .null, .null, .null, .null, .null, .null, .null, .null, .int 0])) ++ [(q1, .inl (kc 0, 2, .inl (fun _ => 0))), (q2, .inl (kc 0, 142, .inl (fun _ => 0))), (q3, .inl (kc 0, 9, .inl (fun _ => 0))), (q4, .inl (kc 0, 9, .inl (fun _ => 0))), (q5, .inl (kc 0, 9, .inl (fun _ => 0))), (q6, .inl (kc 0, 45, .inl (fun _ => 0))), (q7, .inl (kc 0, 30, .inl (fun _ => 0))), (q8, .inl (kc 0, 8, .inl (fun _ => 0))), (q9, .inl (kc 0, 8, .inl (fun _ => 0))), (q10, .inl (kc 0, 4, .inl (fun _ => 0))), (q11, .inl (kc 0, 4, .inl (fun _ => 0))), (q12, .inl (kc 0, 30, .inl (fun _ => 0))), (q13, .inl (kc 0, 30, .inl (fun _ => 0))), (q14, .inl (kc 0, 30, .inl (fun _ => 0))), (q15, .inl (kc 0, 30, .inl (fun _ => 0))), (q16, .inl (kc 0, 30, .inl (fun _ => 0))), (q17, .inl (kc 0, 2, .inl (fun _ => 0))), (q18, .inl (kc 0, 240, .inl (fun _ => 0)))]) rfl rfl ?_
  refine gc_al0 dX12_init_146 ?_
  refine gc_sipush (v := 256) dX12_init_147 (by decide) ?_
  refine gc_mkI 256 he gX12_64 rfl rfl (by decide) (by decide) (by omega) (by omega) dX12_init_150 dX12_init_152 (fun q19 => ?_)
  refine GoC.pw (p2 := 155) (w2 := ws.set i (h, .inr (12, [.ref q1, .ref q2, .int 0, .ref q3, .ref q4, .ref q5, .ref q6, .int 0, .ref q7, .int 0, .int 0, .int 0, .ref q8, .ref q9, .int 0, .ref q10, .ref q11, .ref q12, .int 0, .int 0, .ref q13, .ref q14, .ref q15, .ref q16, .ref q17, .ref q18, .ref q19, .int 0, .null, .null, .null, .null, .null, .null, .null, .null, .null, .int 0])) ++ [(q1, .inl (kc 0, 2, .inl (fun _ => 0))), (q2, .inl (kc 0, 142, .inl (fun _ => 0))), (q3, .inl (kc 0, 9, .inl (fun _ => 0))), (q4, .inl (kc 0, 9, .inl (fun _ => 0))), (q5, .inl (kc 0, 9, .inl (fun _ => 0))), (q6, .inl (kc 0, 45, .inl (fun _ => 0))), (q7, .inl (kc 0, 30, .inl (fun _ => 0))), (q8, .inl (kc 0, 8, .inl (fun _ => 0))), (q9, .inl (kc 0, 8, .inl (fun _ => 0))), (q10, .inl (kc 0, 4, .inl (fun _ => 0))), (q11, .inl (kc 0, 4, .inl (fun _ => 0))), (q12, .inl (kc 0, 30, .inl (fun _ => 0))), (q13, .inl (kc 0, 30, .inl (fun _ => 0))), (q14, .inl (kc 0, 30, .inl (fun _ => 0))), (q15, .inl (kc 0, 30, .inl (fun _ => 0))), (q16, .inl (kc 0, 30, .inl (fun _ => 0))), (q17, .inl (kc 0, 2, .inl (fun _ => 0))), (q18, .inl (kc 0, 240, .inl (fun _ => 0))), (q19, .inl (kc 0, 256, .inl (fun _ => 0)))]) rfl rfl ?_
  refine gc_al0 dX12_init_155 ?_
  refine gc_bipush (v := 8) dX12_init_156 (by decide) ?_
  refine gc_mkI 8 he gX12_67 rfl rfl (by decide) (by decide) (by omega) (by omega) dX12_init_158 dX12_init_160 (fun q20 => ?_)
  refine GoC.pw (p2 := 163) (w2 := ws.set i (h, .inr (12, [.ref q1, .ref q2, .int 0, .ref q3, .ref q4, .ref q5, .ref q6, .int 0, .ref q7, .int 0, .int 0, .int 0, .ref q8, .ref q9, .int 0, .ref q10, .ref q11, .ref q12, .int 0, .int 0, .ref q13, .ref q14, .ref q15, .ref q16, .ref q17, .ref q18, .ref q19, .int 0, .ref q20, .null, .null, .null, .null, .null, .null, .null, .null, .int 0])) ++ [(q1, .inl (kc 0, 2, .inl (fun _ => 0))), (q2, .inl (kc 0, 142, .inl (fun _ => 0))), (q3, .inl (kc 0, 9, .inl (fun _ => 0))), (q4, .inl (kc 0, 9, .inl (fun _ => 0))), (q5, .inl (kc 0, 9, .inl (fun _ => 0))), (q6, .inl (kc 0, 45, .inl (fun _ => 0))), (q7, .inl (kc 0, 30, .inl (fun _ => 0))), (q8, .inl (kc 0, 8, .inl (fun _ => 0))), (q9, .inl (kc 0, 8, .inl (fun _ => 0))), (q10, .inl (kc 0, 4, .inl (fun _ => 0))), (q11, .inl (kc 0, 4, .inl (fun _ => 0))), (q12, .inl (kc 0, 30, .inl (fun _ => 0))), (q13, .inl (kc 0, 30, .inl (fun _ => 0))), (q14, .inl (kc 0, 30, .inl (fun _ => 0))), (q15, .inl (kc 0, 30, .inl (fun _ => 0))), (q16, .inl (kc 0, 30, .inl (fun _ => 0))), (q17, .inl (kc 0, 2, .inl (fun _ => 0))), (q18, .inl (kc 0, 240, .inl (fun _ => 0))), (q19, .inl (kc 0, 256, .inl (fun _ => 0))), (q20, .inl (kc 0, 8, .inl (fun _ => 0)))]) rfl rfl ?_
  refine gc_al0 dX12_init_163 ?_
  refine gc_bipush (v := 8) dX12_init_164 (by decide) ?_
  refine gc_mkI 8 he gX12_70 rfl rfl (by decide) (by decide) (by omega) (by omega) dX12_init_166 dX12_init_168 (fun q21 => ?_)
  refine GoC.pw (p2 := 171) (w2 := ws.set i (h, .inr (12, [.ref q1, .ref q2, .int 0, .ref q3, .ref q4, .ref q5, .ref q6, .int 0, .ref q7, .int 0, .int 0, .int 0, .ref q8, .ref q9, .int 0, .ref q10, .ref q11, .ref q12, .int 0, .int 0, .ref q13, .ref q14, .ref q15, .ref q16, .ref q17, .ref q18, .ref q19, .int 0, .ref q20, .ref q21, .null, .null, .null, .null, .null, .null, .null, .int 0])) ++ [(q1, .inl (kc 0, 2, .inl (fun _ => 0))), (q2, .inl (kc 0, 142, .inl (fun _ => 0))), (q3, .inl (kc 0, 9, .inl (fun _ => 0))), (q4, .inl (kc 0, 9, .inl (fun _ => 0))), (q5, .inl (kc 0, 9, .inl (fun _ => 0))), (q6, .inl (kc 0, 45, .inl (fun _ => 0))), (q7, .inl (kc 0, 30, .inl (fun _ => 0))), (q8, .inl (kc 0, 8, .inl (fun _ => 0))), (q9, .inl (kc 0, 8, .inl (fun _ => 0))), (q10, .inl (kc 0, 4, .inl (fun _ => 0))), (q11, .inl (kc 0, 4, .inl (fun _ => 0))), (q12, .inl (kc 0, 30, .inl (fun _ => 0))), (q13, .inl (kc 0, 30, .inl (fun _ => 0))), (q14, .inl (kc 0, 30, .inl (fun _ => 0))), (q15, .inl (kc 0, 30, .inl (fun _ => 0))), (q16, .inl (kc 0, 30, .inl (fun _ => 0))), (q17, .inl (kc 0, 2, .inl (fun _ => 0))), (q18, .inl (kc 0, 240, .inl (fun _ => 0))), (q19, .inl (kc 0, 256, .inl (fun _ => 0))), (q20, .inl (kc 0, 8, .inl (fun _ => 0))), (q21, .inl (kc 0, 8, .inl (fun _ => 0)))]) rfl rfl ?_
  refine gc_al0 dX12_init_171 ?_
  refine gc_bipush (v := 8) dX12_init_172 (by decide) ?_
  refine gc_mkI 8 he gX12_73 rfl rfl (by decide) (by decide) (by omega) (by omega) dX12_init_174 dX12_init_176 (fun q22 => ?_)
  refine GoC.pw (p2 := 179) (w2 := ws.set i (h, .inr (12, [.ref q1, .ref q2, .int 0, .ref q3, .ref q4, .ref q5, .ref q6, .int 0, .ref q7, .int 0, .int 0, .int 0, .ref q8, .ref q9, .int 0, .ref q10, .ref q11, .ref q12, .int 0, .int 0, .ref q13, .ref q14, .ref q15, .ref q16, .ref q17, .ref q18, .ref q19, .int 0, .ref q20, .ref q21, .ref q22, .null, .null, .null, .null, .null, .null, .int 0])) ++ [(q1, .inl (kc 0, 2, .inl (fun _ => 0))), (q2, .inl (kc 0, 142, .inl (fun _ => 0))), (q3, .inl (kc 0, 9, .inl (fun _ => 0))), (q4, .inl (kc 0, 9, .inl (fun _ => 0))), (q5, .inl (kc 0, 9, .inl (fun _ => 0))), (q6, .inl (kc 0, 45, .inl (fun _ => 0))), (q7, .inl (kc 0, 30, .inl (fun _ => 0))), (q8, .inl (kc 0, 8, .inl (fun _ => 0))), (q9, .inl (kc 0, 8, .inl (fun _ => 0))), (q10, .inl (kc 0, 4, .inl (fun _ => 0))), (q11, .inl (kc 0, 4, .inl (fun _ => 0))), (q12, .inl (kc 0, 30, .inl (fun _ => 0))), (q13, .inl (kc 0, 30, .inl (fun _ => 0))), (q14, .inl (kc 0, 30, .inl (fun _ => 0))), (q15, .inl (kc 0, 30, .inl (fun _ => 0))), (q16, .inl (kc 0, 30, .inl (fun _ => 0))), (q17, .inl (kc 0, 2, .inl (fun _ => 0))), (q18, .inl (kc 0, 240, .inl (fun _ => 0))), (q19, .inl (kc 0, 256, .inl (fun _ => 0))), (q20, .inl (kc 0, 8, .inl (fun _ => 0))), (q21, .inl (kc 0, 8, .inl (fun _ => 0))), (q22, .inl (kc 0, 8, .inl (fun _ => 0)))]) rfl rfl ?_
  refine gc_al0 dX12_init_179 ?_
  refine gc_sipush (v := 600) dX12_init_180 (by decide) ?_
  refine gc_mkI 600 he gX12_76 rfl rfl (by decide) (by decide) (by omega) (by omega) dX12_init_183 dX12_init_185 (fun q23 => ?_)
  refine GoC.pw (p2 := 188) (w2 := ws.set i (h, .inr (12, [.ref q1, .ref q2, .int 0, .ref q3, .ref q4, .ref q5, .ref q6, .int 0, .ref q7, .int 0, .int 0, .int 0, .ref q8, .ref q9, .int 0, .ref q10, .ref q11, .ref q12, .int 0, .int 0, .ref q13, .ref q14, .ref q15, .ref q16, .ref q17, .ref q18, .ref q19, .int 0, .ref q20, .ref q21, .ref q22, .ref q23, .null, .null, .null, .null, .null, .int 0])) ++ [(q1, .inl (kc 0, 2, .inl (fun _ => 0))), (q2, .inl (kc 0, 142, .inl (fun _ => 0))), (q3, .inl (kc 0, 9, .inl (fun _ => 0))), (q4, .inl (kc 0, 9, .inl (fun _ => 0))), (q5, .inl (kc 0, 9, .inl (fun _ => 0))), (q6, .inl (kc 0, 45, .inl (fun _ => 0))), (q7, .inl (kc 0, 30, .inl (fun _ => 0))), (q8, .inl (kc 0, 8, .inl (fun _ => 0))), (q9, .inl (kc 0, 8, .inl (fun _ => 0))), (q10, .inl (kc 0, 4, .inl (fun _ => 0))), (q11, .inl (kc 0, 4, .inl (fun _ => 0))), (q12, .inl (kc 0, 30, .inl (fun _ => 0))), (q13, .inl (kc 0, 30, .inl (fun _ => 0))), (q14, .inl (kc 0, 30, .inl (fun _ => 0))), (q15, .inl (kc 0, 30, .inl (fun _ => 0))), (q16, .inl (kc 0, 30, .inl (fun _ => 0))), (q17, .inl (kc 0, 2, .inl (fun _ => 0))), (q18, .inl (kc 0, 240, .inl (fun _ => 0))), (q19, .inl (kc 0, 256, .inl (fun _ => 0))), (q20, .inl (kc 0, 8, .inl (fun _ => 0))), (q21, .inl (kc 0, 8, .inl (fun _ => 0))), (q22, .inl (kc 0, 8, .inl (fun _ => 0))), (q23, .inl (kc 0, 600, .inl (fun _ => 0)))]) rfl rfl ?_
  refine gc_al0 dX12_init_188 ?_
  refine gc_ic4 dX12_init_189 ?_
  refine gc_mkZ 4 he gX12_79 rfl rfl (by decide) (by decide) (by omega) (by omega) dX12_init_190 dX12_init_192 (fun q24 => ?_)
  refine GoC.pw (p2 := 195) (w2 := ws.set i (h, .inr (12, [.ref q1, .ref q2, .int 0, .ref q3, .ref q4, .ref q5, .ref q6, .int 0, .ref q7, .int 0, .int 0, .int 0, .ref q8, .ref q9, .int 0, .ref q10, .ref q11, .ref q12, .int 0, .int 0, .ref q13, .ref q14, .ref q15, .ref q16, .ref q17, .ref q18, .ref q19, .int 0, .ref q20, .ref q21, .ref q22, .ref q23, .ref q24, .null, .null, .null, .null, .int 0])) ++ [(q1, .inl (kc 0, 2, .inl (fun _ => 0))), (q2, .inl (kc 0, 142, .inl (fun _ => 0))), (q3, .inl (kc 0, 9, .inl (fun _ => 0))), (q4, .inl (kc 0, 9, .inl (fun _ => 0))), (q5, .inl (kc 0, 9, .inl (fun _ => 0))), (q6, .inl (kc 0, 45, .inl (fun _ => 0))), (q7, .inl (kc 0, 30, .inl (fun _ => 0))), (q8, .inl (kc 0, 8, .inl (fun _ => 0))), (q9, .inl (kc 0, 8, .inl (fun _ => 0))), (q10, .inl (kc 0, 4, .inl (fun _ => 0))), (q11, .inl (kc 0, 4, .inl (fun _ => 0))), (q12, .inl (kc 0, 30, .inl (fun _ => 0))), (q13, .inl (kc 0, 30, .inl (fun _ => 0))), (q14, .inl (kc 0, 30, .inl (fun _ => 0))), (q15, .inl (kc 0, 30, .inl (fun _ => 0))), (q16, .inl (kc 0, 30, .inl (fun _ => 0))), (q17, .inl (kc 0, 2, .inl (fun _ => 0))), (q18, .inl (kc 0, 240, .inl (fun _ => 0))), (q19, .inl (kc 0, 256, .inl (fun _ => 0))), (q20, .inl (kc 0, 8, .inl (fun _ => 0))), (q21, .inl (kc 0, 8, .inl (fun _ => 0))), (q22, .inl (kc 0, 8, .inl (fun _ => 0))), (q23, .inl (kc 0, 600, .inl (fun _ => 0))), (q24, .inl (kc 2, 4, .inl (fun _ => 0)))]) rfl rfl ?_
  refine gc_al0 dX12_init_195 ?_
  refine gc_ic4 dX12_init_196 ?_
  refine gc_mkI 4 he gX12_83 rfl rfl (by decide) (by decide) (by omega) (by omega) dX12_init_197 dX12_init_199 (fun q25 => ?_)
  refine GoC.pw (p2 := 202) (w2 := ws.set i (h, .inr (12, [.ref q1, .ref q2, .int 0, .ref q3, .ref q4, .ref q5, .ref q6, .int 0, .ref q7, .int 0, .int 0, .int 0, .ref q8, .ref q9, .int 0, .ref q10, .ref q11, .ref q12, .int 0, .int 0, .ref q13, .ref q14, .ref q15, .ref q16, .ref q17, .ref q18, .ref q19, .int 0, .ref q20, .ref q21, .ref q22, .ref q23, .ref q24, .ref q25, .null, .null, .null, .int 0])) ++ [(q1, .inl (kc 0, 2, .inl (fun _ => 0))), (q2, .inl (kc 0, 142, .inl (fun _ => 0))), (q3, .inl (kc 0, 9, .inl (fun _ => 0))), (q4, .inl (kc 0, 9, .inl (fun _ => 0))), (q5, .inl (kc 0, 9, .inl (fun _ => 0))), (q6, .inl (kc 0, 45, .inl (fun _ => 0))), (q7, .inl (kc 0, 30, .inl (fun _ => 0))), (q8, .inl (kc 0, 8, .inl (fun _ => 0))), (q9, .inl (kc 0, 8, .inl (fun _ => 0))), (q10, .inl (kc 0, 4, .inl (fun _ => 0))), (q11, .inl (kc 0, 4, .inl (fun _ => 0))), (q12, .inl (kc 0, 30, .inl (fun _ => 0))), (q13, .inl (kc 0, 30, .inl (fun _ => 0))), (q14, .inl (kc 0, 30, .inl (fun _ => 0))), (q15, .inl (kc 0, 30, .inl (fun _ => 0))), (q16, .inl (kc 0, 30, .inl (fun _ => 0))), (q17, .inl (kc 0, 2, .inl (fun _ => 0))), (q18, .inl (kc 0, 240, .inl (fun _ => 0))), (q19, .inl (kc 0, 256, .inl (fun _ => 0))), (q20, .inl (kc 0, 8, .inl (fun _ => 0))), (q21, .inl (kc 0, 8, .inl (fun _ => 0))), (q22, .inl (kc 0, 8, .inl (fun _ => 0))), (q23, .inl (kc 0, 600, .inl (fun _ => 0))), (q24, .inl (kc 2, 4, .inl (fun _ => 0))), (q25, .inl (kc 0, 4, .inl (fun _ => 0)))]) rfl rfl ?_
  refine gc_al0 dX12_init_202 ?_
  refine gc_ic4 dX12_init_203 ?_
  refine gc_mkI 4 he gX12_86 rfl rfl (by decide) (by decide) (by omega) (by omega) dX12_init_204 dX12_init_206 (fun q26 => ?_)
  refine GoC.pw (p2 := 209) (w2 := ws.set i (h, .inr (12, [.ref q1, .ref q2, .int 0, .ref q3, .ref q4, .ref q5, .ref q6, .int 0, .ref q7, .int 0, .int 0, .int 0, .ref q8, .ref q9, .int 0, .ref q10, .ref q11, .ref q12, .int 0, .int 0, .ref q13, .ref q14, .ref q15, .ref q16, .ref q17, .ref q18, .ref q19, .int 0, .ref q20, .ref q21, .ref q22, .ref q23, .ref q24, .ref q25, .ref q26, .null, .null, .int 0])) ++ [(q1, .inl (kc 0, 2, .inl (fun _ => 0))), (q2, .inl (kc 0, 142, .inl (fun _ => 0))), (q3, .inl (kc 0, 9, .inl (fun _ => 0))), (q4, .inl (kc 0, 9, .inl (fun _ => 0))), (q5, .inl (kc 0, 9, .inl (fun _ => 0))), (q6, .inl (kc 0, 45, .inl (fun _ => 0))), (q7, .inl (kc 0, 30, .inl (fun _ => 0))), (q8, .inl (kc 0, 8, .inl (fun _ => 0))), (q9, .inl (kc 0, 8, .inl (fun _ => 0))), (q10, .inl (kc 0, 4, .inl (fun _ => 0))), (q11, .inl (kc 0, 4, .inl (fun _ => 0))), (q12, .inl (kc 0, 30, .inl (fun _ => 0))), (q13, .inl (kc 0, 30, .inl (fun _ => 0))), (q14, .inl (kc 0, 30, .inl (fun _ => 0))), (q15, .inl (kc 0, 30, .inl (fun _ => 0))), (q16, .inl (kc 0, 30, .inl (fun _ => 0))), (q17, .inl (kc 0, 2, .inl (fun _ => 0))), (q18, .inl (kc 0, 240, .inl (fun _ => 0))), (q19, .inl (kc 0, 256, .inl (fun _ => 0))), (q20, .inl (kc 0, 8, .inl (fun _ => 0))), (q21, .inl (kc 0, 8, .inl (fun _ => 0))), (q22, .inl (kc 0, 8, .inl (fun _ => 0))), (q23, .inl (kc 0, 600, .inl (fun _ => 0))), (q24, .inl (kc 2, 4, .inl (fun _ => 0))), (q25, .inl (kc 0, 4, .inl (fun _ => 0))), (q26, .inl (kc 0, 4, .inl (fun _ => 0)))]) rfl rfl ?_
  refine gc_al0 dX12_init_209 ?_
  refine gc_sipush (v := 240) dX12_init_210 (by decide) ?_
  refine gc_mkI 240 he gX12_89 rfl rfl (by decide) (by decide) (by omega) (by omega) dX12_init_213 dX12_init_215 (fun q27 => ?_)
  refine GoC.pw (p2 := 218) (w2 := ws.set i (h, .inr (12, [.ref q1, .ref q2, .int 0, .ref q3, .ref q4, .ref q5, .ref q6, .int 0, .ref q7, .int 0, .int 0, .int 0, .ref q8, .ref q9, .int 0, .ref q10, .ref q11, .ref q12, .int 0, .int 0, .ref q13, .ref q14, .ref q15, .ref q16, .ref q17, .ref q18, .ref q19, .int 0, .ref q20, .ref q21, .ref q22, .ref q23, .ref q24, .ref q25, .ref q26, .ref q27, .null, .int 0])) ++ [(q1, .inl (kc 0, 2, .inl (fun _ => 0))), (q2, .inl (kc 0, 142, .inl (fun _ => 0))), (q3, .inl (kc 0, 9, .inl (fun _ => 0))), (q4, .inl (kc 0, 9, .inl (fun _ => 0))), (q5, .inl (kc 0, 9, .inl (fun _ => 0))), (q6, .inl (kc 0, 45, .inl (fun _ => 0))), (q7, .inl (kc 0, 30, .inl (fun _ => 0))), (q8, .inl (kc 0, 8, .inl (fun _ => 0))), (q9, .inl (kc 0, 8, .inl (fun _ => 0))), (q10, .inl (kc 0, 4, .inl (fun _ => 0))), (q11, .inl (kc 0, 4, .inl (fun _ => 0))), (q12, .inl (kc 0, 30, .inl (fun _ => 0))), (q13, .inl (kc 0, 30, .inl (fun _ => 0))), (q14, .inl (kc 0, 30, .inl (fun _ => 0))), (q15, .inl (kc 0, 30, .inl (fun _ => 0))), (q16, .inl (kc 0, 30, .inl (fun _ => 0))), (q17, .inl (kc 0, 2, .inl (fun _ => 0))), (q18, .inl (kc 0, 240, .inl (fun _ => 0))), (q19, .inl (kc 0, 256, .inl (fun _ => 0))), (q20, .inl (kc 0, 8, .inl (fun _ => 0))), (q21, .inl (kc 0, 8, .inl (fun _ => 0))), (q22, .inl (kc 0, 8, .inl (fun _ => 0))), (q23, .inl (kc 0, 600, .inl (fun _ => 0))), (q24, .inl (kc 2, 4, .inl (fun _ => 0))), (q25, .inl (kc 0, 4, .inl (fun _ => 0))), (q26, .inl (kc 0, 4, .inl (fun _ => 0))), (q27, .inl (kc 0, 240, .inl (fun _ => 0)))]) rfl rfl ?_
  refine gc_al0 dX12_init_218 ?_
  refine gc_bipush (v := 60) dX12_init_219 (by decide) ?_
  refine gc_mkI 60 he gX12_92 rfl rfl (by decide) (by decide) (by omega) (by omega) dX12_init_221 dX12_init_223 (fun q28 => ?_)
  refine GoC.pw (p2 := 226) (w2 := ws.set i (h, .inr (12, [.ref q1, .ref q2, .int 0, .ref q3, .ref q4, .ref q5, .ref q6, .int 0, .ref q7, .int 0, .int 0, .int 0, .ref q8, .ref q9, .int 0, .ref q10, .ref q11, .ref q12, .int 0, .int 0, .ref q13, .ref q14, .ref q15, .ref q16, .ref q17, .ref q18, .ref q19, .int 0, .ref q20, .ref q21, .ref q22, .ref q23, .ref q24, .ref q25, .ref q26, .ref q27, .ref q28, .int 0])) ++ [(q1, .inl (kc 0, 2, .inl (fun _ => 0))), (q2, .inl (kc 0, 142, .inl (fun _ => 0))), (q3, .inl (kc 0, 9, .inl (fun _ => 0))), (q4, .inl (kc 0, 9, .inl (fun _ => 0))), (q5, .inl (kc 0, 9, .inl (fun _ => 0))), (q6, .inl (kc 0, 45, .inl (fun _ => 0))), (q7, .inl (kc 0, 30, .inl (fun _ => 0))), (q8, .inl (kc 0, 8, .inl (fun _ => 0))), (q9, .inl (kc 0, 8, .inl (fun _ => 0))), (q10, .inl (kc 0, 4, .inl (fun _ => 0))), (q11, .inl (kc 0, 4, .inl (fun _ => 0))), (q12, .inl (kc 0, 30, .inl (fun _ => 0))), (q13, .inl (kc 0, 30, .inl (fun _ => 0))), (q14, .inl (kc 0, 30, .inl (fun _ => 0))), (q15, .inl (kc 0, 30, .inl (fun _ => 0))), (q16, .inl (kc 0, 30, .inl (fun _ => 0))), (q17, .inl (kc 0, 2, .inl (fun _ => 0))), (q18, .inl (kc 0, 240, .inl (fun _ => 0))), (q19, .inl (kc 0, 256, .inl (fun _ => 0))), (q20, .inl (kc 0, 8, .inl (fun _ => 0))), (q21, .inl (kc 0, 8, .inl (fun _ => 0))), (q22, .inl (kc 0, 8, .inl (fun _ => 0))), (q23, .inl (kc 0, 600, .inl (fun _ => 0))), (q24, .inl (kc 2, 4, .inl (fun _ => 0))), (q25, .inl (kc 0, 4, .inl (fun _ => 0))), (q26, .inl (kc 0, 4, .inl (fun _ => 0))), (q27, .inl (kc 0, 240, .inl (fun _ => 0))), (q28, .inl (kc 0, 60, .inl (fun _ => 0)))]) rfl rfl ?_
  refine gc_al0 dX12_init_226 ?_
  refine gc_bipush (v := 8) dX12_init_227 (by decide) ?_
  refine gc_pI he fX12_95 rfl rfl rfl dX12_init_229 ?_
  refine gc_al0 dX12_init_232 ?_
  refine gc_bipush (v := 7) dX12_init_233 (by decide) ?_
  refine gc_pI he fX12_99 rfl rfl rfl dX12_init_235 ?_
  exact gc_vret (by omega) (by omega) dX12_init_238 ⟨q1, q2, q3, q4, q5, q6, q7, q8, q9, q10, q11, q12, q13, q14, q15, q16, q17, q18, q19, q20, q21, q22, q23, q24, q25, q26, q27, q28, rfl⟩
theorem gc_fillw {ws : va_W} {i : Nat} {x z : Nat × va_E} : (ws.set i x).set i z = ws.set i z := List.set_set ..
theorem n_fill_loop {kc : Nat → ClassId} {ws : va_W} {i a z : Nat} {f : Nat → Int32} {v : Int32} {K N : Nat} (hz : z < 2 ^ 20) (he : ws[i]? = some (a, .inl (kc 0, z, .inl f))) : ∀ (m t : Nat), t + m = z → GoC kc yJ7_fill_53178 cJ7_fill_53178 4 0 K N 5 [some (.ref a), some (.int v), some (.int (nI t)), some (.int (nI z))] [] (ws.set i (a, .inl (kc 0, z, .inl (fun j => if j < t then v else f j)))) 0 0 (fun ws' => ws' = ws.set i (a, .inl (kc 0, z, .inl (fun j => if j < z then v else f j)))) := by
  intro m
  induction m with
  | zero =>
    intro t ht
    refine gc_il2 dJ7_fill_53178_5 (gc_il3 dJ7_fill_53178_6 (gc_cge 20 dJ7_fill_53178_7 rfl (fun _ => ?_) (fun q => ?_)))
    · refine gc_vret (Nat.zero_le _) (Nat.zero_le _) dJ7_fill_53178_20 ?_
      have : t = z := by omega
      rw [this]
    · exact absurd ((nI_leI (by omega) (by omega)).mpr (by omega)) q
  | succ m ih =>
    intro t ht
    refine gc_il2 dJ7_fill_53178_5 (gc_il3 dJ7_fill_53178_6 (gc_cge 20 dJ7_fill_53178_7 rfl (fun q => ?_) (fun _ => ?_)))
    · exact absurd ((nI_leI (by omega) (by omega)).mp q) (by omega)
    · refine gc_al0 dJ7_fill_53178_10 (gc_il2 dJ7_fill_53178_11 (gc_il1 dJ7_fill_53178_12 (gc_iast (lk_set he) (vp_in_nI (by omega) (by omega)) dJ7_fill_53178_13 (gc_inc2 (v := nI (t + 1)) dJ7_fill_53178_14 (nI_succ t).symm rfl rfl (gc_goto 5 dJ7_fill_53178_17 rfl ?_)))))
      refine GoC.wd ?_ (ih (t + 1) (by omega))
      rw [gc_fillw, nI_clamp (by omega)]
      congr 6
      funext j
      show (if j = t then v else if j < t then v else f j) = _
      by_cases h1 : j = t
      · rw [if_pos h1, if_pos (by omega)]
      · rw [if_neg h1]
        by_cases h2 : j < t
        · rw [if_pos h2, if_pos (by omega)]
        · rw [if_neg h2, if_neg (by omega)]
theorem n_fill {kc : Nat → ClassId} {ws : va_W} {i a z : Nat} {f : Nat → Int32} {v : Int32} (hz : z < 2 ^ 20) (he : ws[i]? = some (a, .inl (kc 0, z, .inl f))) : SatC kc yJ7_fill_53178 cJ7_fill_53178 4 0 0 0 [.ref a, .int v] ws (fun ws' => ws' = ws.set i (a, .inl (kc 0, z, .inl (fun j => if j < z then v else f j)))) := by
  refine SatC.of (L := [some (.ref a), some (.int v), none, none]) rfl rfl rfl ?_
  refine gc_ic0 dJ7_fill_53178_0 (gc_is2 dJ7_fill_53178_1 rfl rfl (gc_al0 dJ7_fill_53178_2 (gc_alenI he dJ7_fill_53178_3 (gc_is3 dJ7_fill_53178_4 rfl rfl ?_))))
  have h0 : ws = ws.set i (a, .inl (kc 0, z, .inl (fun j => if j < 0 then v else f j))) := by
    have := gc_st he
    rw [List.append_nil] at this
    exact this
  exact GoC.wd h0 (n_fill_loop hz he z 0 (by omega))
theorem nX0 {kc : Nat → ClassId} {ws : va_W} {i h : Nat} (he : ws[i]? = some (h, .inr (0, fsX0))) : SatC kc yX0_init cX0_init 1 1 1 30 [.ref h] ws (fun ws' => ∃ q1 : Nat, ws' = ws.set i (h, .inr (0, [.ref q1, .int 0, .int (-1)])) ++ [(q1, .inl (kc 0, 30, .inl (fun j => if j < 30 then 5 else 0)))]) := by
  refine SatC.of (L := [some (.ref h)]) rfl rfl rfl ?_
  refine gc_al0 dX0_init_0 ?_
  refine gc_oi obX0 rfl dX0_init_1 ?_
  refine GoC.wd (gc_st he) ?_
  refine gc_al0 dX0_init_4 ?_
  refine gc_bipush (v := 30) dX0_init_5 (by decide) ?_
  refine gc_mkI 30 he gX0_9 rfl rfl (by decide) (by decide) (by omega) (by omega) dX0_init_7 dX0_init_9 (fun q1 => ?_)
  refine GoC.pw (p2 := 12) (w2 := ws.set i (h, .inr (0, [.ref q1, .int 0, .int 0])) ++ [(q1, .inl (kc 0, 30, .inl (fun _ => 0)))]) rfl rfl ?_
  refine gc_al0 dX0_init_12 ?_
  refine gc_icm1 dX0_init_13 ?_
  refine gc_pI he fX0_15 rfl rfl rfl dX0_init_14 ?_
  refine gc_al0 dX0_init_17 ?_
  refine gc_getR fX0_9 (lk_app (lk_set he)) rfl dX0_init_18 (gc_ic5 dX0_init_21 ?_)
  have hq : (ws.set i (h, .inr (0, [.ref q1, .int 0, .int (-1)])) ++ [(q1, .inl (kc 0, 30, .inl (fun _ => 0)))])[ws.length]? = some (q1, .inl (kc 0, 30, .inl (fun _ => 0))) := by
    rw [List.getElem?_append_right (by rw [List.length_set]; exact Nat.le_refl _), List.length_set, Nat.sub_self]; rfl
  refine gc_callS (As := [.ref q1, .int 5]) (rest := []) mcJ7_fill_53178 mvJ7_fill_53178 kX0_19 dX0_init_22 rfl rfl rfl (by omega) (by omega) (n_fill (by decide) hq) ?_
  intro ws2 e2; subst e2
  refine gc_vret (by omega) (by omega) dX0_init_25 ⟨q1, ?_⟩
  rw [List.set_append_right _ _ (by rw [List.length_set]; exact Nat.le_refl _), List.length_set, Nat.sub_self]; rfl
