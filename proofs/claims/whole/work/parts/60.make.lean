/-! THE MAKING: worlds that grow, cell by cell -/
def gc_X (y : MethodName) (cc : ByteArray) (nL : Nat) (kc : Nat → ClassId) (p : Program) (s : State) (m : MethodId) (args : Array Value) (meth : Method) (c : Code) (D : va_G) (A : Nat → Prop) : Prop :=
  p.tables.exec = Jvm.exec ∧ c.code = cc ∧ meth.sig.returnType = none ∧ c.maxLocals = nL ∧ s.vm.findClass y.cls = some m.cls ∧ (∀ w ∈ gm_tb, w.before args s = true) ∧ meth.locks = false ∧ va_K D vwCl (gm_tl kc) s ∧ (∀ q : Nat, s.heap.size ≤ q → A q) ∧ gm_N s ∧ va_AO "CheeseEar$Sheet" s ∧ meth.name = y.name
def gc_E (kc : Nat → ClassId) (D : va_G) (A : Nat → Prop) (ws : va_W) (t : State) : Prop := va_P D vwCl ws t.heap ∧ va_D A ws ∧ va_K D vwCl (gm_tl kc) t
def gc_r (fr K N : Nat) : Room := { frames := fr, cells := K, slots := N, locals := 40 * fr }
def GoC (kc : Nat → ClassId) (y : MethodName) (cc : ByteArray) (nL fr K N pc : Nat) (L : List (Option Value)) (st : List Value) (ws : va_W) (k n : Nat) (Post : va_W → Prop) : Prop :=
  ∀ (l : Launch) (p : Program) (e : Env) (s : State) (m : MethodId) (args : Array Value) (below : List Frame) (meth : Method) (c : Code) (D : va_G) (A : Nat → Prop) (H : Heap) (locs : List Loc) (ls : Array Slot),
    gc_X y cc nL kc p s m args meth c D A → va_P D vwCl ws H → va_D A ws → va_S A s.heap H locs → lv_has ls nL (gm_l id L) →
    W p l e (gc_r fr K N) s m args below meth c H locs k n (MQ below (va_Qv Post (gc_E kc D A) A) args s K N A) (F0 m pc ls st)
def gc_B (kc : Nat → ClassId) (D : va_G) (A : Nat → Prop) (ws : va_W) (U : State) : Prop := va_P D vwCl ws U.heap ∧ va_K D vwCl (gm_tl kc) U ∧ va_D A ws ∧ (∀ q : Nat, U.heap.size ≤ q → A q) ∧ gm_N U ∧ va_AO "CheeseEar$Sheet" U
/-- the constructor, called on these arguments in this world, returns with a world of Post; it makes K cells of N slots at most -/
def SatC (kc : Nat → ClassId) (y : MethodName) (cc : ByteArray) (nL fr K N : Nat) (As : List Value) (ws : va_W) (Post : va_W → Prop) : Prop :=
  ∀ (l : Launch) (D : va_G) (A : Nat → Prop), Met l y (Cond.code y cc nL none :: gm_tb) (gc_r fr K N) (va_Pc As (gc_B kc D A ws)) (va_Qv Post (gc_E kc D A) A) K N A
theorem SatC.of {kc : Nat → ClassId} {y : MethodName} {cc : ByteArray} {nL fr K N : Nat} {As : List Value} {L : List (Option Value)} {ws : va_W} {Post : va_W → Prop} (hy : plainName y.cls = true) (hn : Nat.ble (lg_sl As).length nL = true) (hL : lv_args 0 As = gm_l id L)
    (g : GoC kc y cc nL fr K N 0 L [] ws 0 0 Post) : SatC kc y cc nL fr K N As ws Post := by
  intro l D A
  refine Met.ofW (cc := cc) (maxL := nL) (ret := none) hy rfl ?_
  intro p e s m args below meth c s₁ B hml hv
  obtain ⟨rfl, hP, hK, hD, hA, hN, hO⟩ := hv
  have hts := atoms_spec (ws := Cond.code y cc nL none :: gm_tb) B.pre
  have hl := lv_entry As (n := nL) (Nat.le_of_ble_eq_true hn)
  rw [hL] at hl
  rw [lg_entry_eq]
  exact g l p e s m _ below meth c D A s.heap [] _ ⟨B.exec, B.bytes, B.returns, hml, findClass_of_methodNamed B.named, fun w hw => hts w (List.mem_cons_of_mem _ hw), B.notSynchronized, hK, hA, hN, hO, (name_of_methodNamed B.named B.method).1⟩ hP hD va_S.rf hl
section gcRows
variable {kc : Nat → ClassId} {y : MethodName} {cc : ByteArray} {nL fr K N pc : Nat} {L : List (Option Value)} {st : List Value} {ws : va_W} {k n : Nat} {Post : va_W → Prop}
theorem GoC.wd {ws' : va_W} (h : ws = ws') (g : GoC kc y cc nL fr K N pc L st ws' k n Post) : GoC kc y cc nL fr K N pc L st ws k n Post := h ▸ g
theorem lk_app {ws l : va_W} {i : Nat} {x : Nat × va_E} (h : ws[i]? = some x) : (ws ++ l)[i]? = some x := by
  rw [List.getElem?_append_left (List.getElem?_eq_some_iff.mp h).1]; exact h
theorem lk_set {ws : va_W} {i : Nat} {x z : Nat × va_E} (h : ws[i]? = some x) : (ws.set i z)[i]? = some z := by
  rw [List.getElem?_set, if_pos rfl, if_pos (List.getElem?_eq_some_iff.mp h).1]
theorem lk_sa {ws l : va_W} {i : Nat} {x z : Nat × va_E} (h : ws[i]? = some x) : (ws ++ l).set i z = ws.set i z ++ l := List.set_append_left i z (List.getElem?_eq_some_iff.mp h).1
theorem gc_icm1  (dd : decode cc pc = .ok (.iconst (-1), 1))  (g : GoC kc y cc nL fr K N (pc + 1) L (.int (-1) :: st) ws k n Post) : GoC kc y cc nL fr K N pc L (st) ws k n Post := by
  intro l p e s m args below meth c D A H locs ls X hP hD hS hl
  exact lv_iconst X.1 X.2.1 dd (by decide) (g l p e s m args below meth c D A H locs ls X hP hD hS hl)
theorem gc_ic0  (dd : decode cc pc = .ok (.iconst 0, 1))  (g : GoC kc y cc nL fr K N (pc + 1) L (.int 0 :: st) ws k n Post) : GoC kc y cc nL fr K N pc L (st) ws k n Post := by
  intro l p e s m args below meth c D A H locs ls X hP hD hS hl
  exact lv_iconst X.1 X.2.1 dd (by decide) (g l p e s m args below meth c D A H locs ls X hP hD hS hl)
theorem gc_ic1  (dd : decode cc pc = .ok (.iconst 1, 1))  (g : GoC kc y cc nL fr K N (pc + 1) L (.int 1 :: st) ws k n Post) : GoC kc y cc nL fr K N pc L (st) ws k n Post := by
  intro l p e s m args below meth c D A H locs ls X hP hD hS hl
  exact lv_iconst X.1 X.2.1 dd (by decide) (g l p e s m args below meth c D A H locs ls X hP hD hS hl)
theorem gc_ic2  (dd : decode cc pc = .ok (.iconst 2, 1))  (g : GoC kc y cc nL fr K N (pc + 1) L (.int 2 :: st) ws k n Post) : GoC kc y cc nL fr K N pc L (st) ws k n Post := by
  intro l p e s m args below meth c D A H locs ls X hP hD hS hl
  exact lv_iconst X.1 X.2.1 dd (by decide) (g l p e s m args below meth c D A H locs ls X hP hD hS hl)
theorem gc_ic3  (dd : decode cc pc = .ok (.iconst 3, 1))  (g : GoC kc y cc nL fr K N (pc + 1) L (.int 3 :: st) ws k n Post) : GoC kc y cc nL fr K N pc L (st) ws k n Post := by
  intro l p e s m args below meth c D A H locs ls X hP hD hS hl
  exact lv_iconst X.1 X.2.1 dd (by decide) (g l p e s m args below meth c D A H locs ls X hP hD hS hl)
theorem gc_ic4  (dd : decode cc pc = .ok (.iconst 4, 1))  (g : GoC kc y cc nL fr K N (pc + 1) L (.int 4 :: st) ws k n Post) : GoC kc y cc nL fr K N pc L (st) ws k n Post := by
  intro l p e s m args below meth c D A H locs ls X hP hD hS hl
  exact lv_iconst X.1 X.2.1 dd (by decide) (g l p e s m args below meth c D A H locs ls X hP hD hS hl)
theorem gc_ic5  (dd : decode cc pc = .ok (.iconst 5, 1))  (g : GoC kc y cc nL fr K N (pc + 1) L (.int 5 :: st) ws k n Post) : GoC kc y cc nL fr K N pc L (st) ws k n Post := by
  intro l p e s m args below meth c D A H locs ls X hP hD hS hl
  exact lv_iconst X.1 X.2.1 dd (by decide) (g l p e s m args below meth c D A H locs ls X hP hD hS hl)
theorem gc_bipush {z : Int} {v : Int32} (dd : decode cc pc = .ok (.bipush z, 2)) (hv : (Int8.ofInt z).toInt32 = v) (g : GoC kc y cc nL fr K N (pc + 2) L (.int v :: st) ws k n Post) : GoC kc y cc nL fr K N pc L (st) ws k n Post := by
  intro l p e s m args below meth c D A H locs ls X hP hD hS hl
  exact lv_bipush X.1 X.2.1 dd hv (g l p e s m args below meth c D A H locs ls X hP hD hS hl)
theorem gc_sipush {z : Int} {v : Int32} (dd : decode cc pc = .ok (.sipush z, 3)) (hv : (Int16.ofInt z).toInt32 = v) (g : GoC kc y cc nL fr K N (pc + 3) L (.int v :: st) ws k n Post) : GoC kc y cc nL fr K N pc L (st) ws k n Post := by
  intro l p e s m args below meth c D A H locs ls X hP hD hS hl
  exact lv_sipush X.1 X.2.1 dd hv (g l p e s m args below meth c D A H locs ls X hP hD hS hl)
theorem gc_dup {v : Value} (dd : decode cc pc = .ok (.dup, 1)) (hv : v.category = 1) (g : GoC kc y cc nL fr K N (pc + 1) L (v :: v :: st) ws k n Post) : GoC kc y cc nL fr K N pc L (v :: st) ws k n Post := by
  intro l p e s m args below meth c D A H locs ls X hP hD hS hl
  exact lv_dup X.1 X.2.1 dd hv (g l p e s m args below meth c D A H locs ls X hP hD hS hl)
theorem gc_il0 {r : List (Option Value)} {x : Int32} (dd : decode cc pc = .ok (.iload_n 0, 1)) (g : GoC kc y cc nL fr K N (pc + 1) (some (.int x) :: r) (.int x :: st) ws k n Post) : GoC kc y cc nL fr K N pc (some (.int x) :: r) st ws k n Post := by
  intro l p e s m args below meth c D A H locs ls X hP hD hS hl
  exact lv_iload_n X.1 X.2.1 dd rfl (gm_has_at hl (i := 0) rfl) (g l p e s m args below meth c D A H locs ls X hP hD hS hl)
theorem gc_al0 {r : List (Option Value)} {x : Nat} (dd : decode cc pc = .ok (.aload_n 0, 1)) (g : GoC kc y cc nL fr K N (pc + 1) (some (.ref x) :: r) (.ref x :: st) ws k n Post) : GoC kc y cc nL fr K N pc (some (.ref x) :: r) st ws k n Post := by
  intro l p e s m args below meth c D A H locs ls X hP hD hS hl
  exact lv_aload_n X.1 X.2.1 dd rfl (gm_has_at hl (i := 0) rfl) (g l p e s m args below meth c D A H locs ls X hP hD hS hl)
theorem gc_il1 {l0 : Option Value} {r : List (Option Value)} {x : Int32} (dd : decode cc pc = .ok (.iload_n 1, 1)) (g : GoC kc y cc nL fr K N (pc + 1) (l0 :: some (.int x) :: r) (.int x :: st) ws k n Post) : GoC kc y cc nL fr K N pc (l0 :: some (.int x) :: r) st ws k n Post := by
  intro l p e s m args below meth c D A H locs ls X hP hD hS hl
  exact lv_iload_n X.1 X.2.1 dd rfl (gm_has_at hl (i := 1) rfl) (g l p e s m args below meth c D A H locs ls X hP hD hS hl)
theorem gc_al1 {l0 : Option Value} {r : List (Option Value)} {x : Nat} (dd : decode cc pc = .ok (.aload_n 1, 1)) (g : GoC kc y cc nL fr K N (pc + 1) (l0 :: some (.ref x) :: r) (.ref x :: st) ws k n Post) : GoC kc y cc nL fr K N pc (l0 :: some (.ref x) :: r) st ws k n Post := by
  intro l p e s m args below meth c D A H locs ls X hP hD hS hl
  exact lv_aload_n X.1 X.2.1 dd rfl (gm_has_at hl (i := 1) rfl) (g l p e s m args below meth c D A H locs ls X hP hD hS hl)
theorem gc_is1 {l0 : Option Value} {r : List (Option Value)} {z : Option Value} {x : Int32} (dd : decode cc pc = .ok (.istore_n 1, 1)) (hn : Nat.ble (1 + 1) nL = true) (hc : gm_lc [l0] = true) (g : GoC kc y cc nL fr K N (pc + 1) (l0 :: some (.int x) :: r) st ws k n Post) : GoC kc y cc nL fr K N pc (l0 :: z :: r) (.int x :: st) ws k n Post := by
  intro l p e s m args below meth c D A H locs ls X hP hD hS hl
  exact lv_istore_n X.1 X.2.1 dd rfl hl (Nat.le_of_ble_eq_true hn) rfl (fun ls' hl' => g l p e s m args below meth c D A H locs ls' X hP hD hS (gm_has1 (ad := id) (v := .int x) (L := [l0] ++ z :: r) hl' (gm_ok1 rfl hc)))
theorem gc_inc1 {l0 : Option Value} {r : List (Option Value)} {x v : Int32} {z : Int} (dd : decode cc pc = .ok (.iinc 1 z, 3)) (hv : x + Int32.ofInt z = v) (hn : Nat.ble (1 + 1) nL = true) (hc : gm_lc [l0] = true) (g : GoC kc y cc nL fr K N (pc + 3) (l0 :: some (.int v) :: r) st ws k n Post) : GoC kc y cc nL fr K N pc (l0 :: some (.int x) :: r) st ws k n Post := by
  intro l p e s m args below meth c D A H locs ls X hP hD hS hl
  have hx : ([l0] ++ some (.int x) :: r)[1]? = some (some (.int x)) := rfl
  obtain ⟨k0, hk⟩ := List.getElem?_of_mem (gm_l_mem (ad := id) hx)
  exact lv_iinc X.1 X.2.1 dd hl (k := k0) hk hv (Nat.le_of_ble_eq_true hn) rfl (fun ls' hl' => g l p e s m args below meth c D A H locs ls' X hP hD hS (gm_has1 (ad := id) (v := .int v) (L := [l0] ++ some (.int x) :: r) hl' (gm_ok1 rfl hc)))
theorem gc_il2 {l0 l1 : Option Value} {r : List (Option Value)} {x : Int32} (dd : decode cc pc = .ok (.iload_n 2, 1)) (g : GoC kc y cc nL fr K N (pc + 1) (l0 :: l1 :: some (.int x) :: r) (.int x :: st) ws k n Post) : GoC kc y cc nL fr K N pc (l0 :: l1 :: some (.int x) :: r) st ws k n Post := by
  intro l p e s m args below meth c D A H locs ls X hP hD hS hl
  exact lv_iload_n X.1 X.2.1 dd rfl (gm_has_at hl (i := 2) rfl) (g l p e s m args below meth c D A H locs ls X hP hD hS hl)
theorem gc_al2 {l0 l1 : Option Value} {r : List (Option Value)} {x : Nat} (dd : decode cc pc = .ok (.aload_n 2, 1)) (g : GoC kc y cc nL fr K N (pc + 1) (l0 :: l1 :: some (.ref x) :: r) (.ref x :: st) ws k n Post) : GoC kc y cc nL fr K N pc (l0 :: l1 :: some (.ref x) :: r) st ws k n Post := by
  intro l p e s m args below meth c D A H locs ls X hP hD hS hl
  exact lv_aload_n X.1 X.2.1 dd rfl (gm_has_at hl (i := 2) rfl) (g l p e s m args below meth c D A H locs ls X hP hD hS hl)
theorem gc_is2 {l0 l1 : Option Value} {r : List (Option Value)} {z : Option Value} {x : Int32} (dd : decode cc pc = .ok (.istore_n 2, 1)) (hn : Nat.ble (2 + 1) nL = true) (hc : gm_lc [l0, l1] = true) (g : GoC kc y cc nL fr K N (pc + 1) (l0 :: l1 :: some (.int x) :: r) st ws k n Post) : GoC kc y cc nL fr K N pc (l0 :: l1 :: z :: r) (.int x :: st) ws k n Post := by
  intro l p e s m args below meth c D A H locs ls X hP hD hS hl
  exact lv_istore_n X.1 X.2.1 dd rfl hl (Nat.le_of_ble_eq_true hn) rfl (fun ls' hl' => g l p e s m args below meth c D A H locs ls' X hP hD hS (gm_has1 (ad := id) (v := .int x) (L := [l0, l1] ++ z :: r) hl' (gm_ok1 rfl hc)))
theorem gc_inc2 {l0 l1 : Option Value} {r : List (Option Value)} {x v : Int32} {z : Int} (dd : decode cc pc = .ok (.iinc 2 z, 3)) (hv : x + Int32.ofInt z = v) (hn : Nat.ble (2 + 1) nL = true) (hc : gm_lc [l0, l1] = true) (g : GoC kc y cc nL fr K N (pc + 3) (l0 :: l1 :: some (.int v) :: r) st ws k n Post) : GoC kc y cc nL fr K N pc (l0 :: l1 :: some (.int x) :: r) st ws k n Post := by
  intro l p e s m args below meth c D A H locs ls X hP hD hS hl
  have hx : ([l0, l1] ++ some (.int x) :: r)[2]? = some (some (.int x)) := rfl
  obtain ⟨k0, hk⟩ := List.getElem?_of_mem (gm_l_mem (ad := id) hx)
  exact lv_iinc X.1 X.2.1 dd hl (k := k0) hk hv (Nat.le_of_ble_eq_true hn) rfl (fun ls' hl' => g l p e s m args below meth c D A H locs ls' X hP hD hS (gm_has1 (ad := id) (v := .int v) (L := [l0, l1] ++ some (.int x) :: r) hl' (gm_ok1 rfl hc)))
theorem gc_il3 {l0 l1 l2 : Option Value} {r : List (Option Value)} {x : Int32} (dd : decode cc pc = .ok (.iload_n 3, 1)) (g : GoC kc y cc nL fr K N (pc + 1) (l0 :: l1 :: l2 :: some (.int x) :: r) (.int x :: st) ws k n Post) : GoC kc y cc nL fr K N pc (l0 :: l1 :: l2 :: some (.int x) :: r) st ws k n Post := by
  intro l p e s m args below meth c D A H locs ls X hP hD hS hl
  exact lv_iload_n X.1 X.2.1 dd rfl (gm_has_at hl (i := 3) rfl) (g l p e s m args below meth c D A H locs ls X hP hD hS hl)
theorem gc_al3 {l0 l1 l2 : Option Value} {r : List (Option Value)} {x : Nat} (dd : decode cc pc = .ok (.aload_n 3, 1)) (g : GoC kc y cc nL fr K N (pc + 1) (l0 :: l1 :: l2 :: some (.ref x) :: r) (.ref x :: st) ws k n Post) : GoC kc y cc nL fr K N pc (l0 :: l1 :: l2 :: some (.ref x) :: r) st ws k n Post := by
  intro l p e s m args below meth c D A H locs ls X hP hD hS hl
  exact lv_aload_n X.1 X.2.1 dd rfl (gm_has_at hl (i := 3) rfl) (g l p e s m args below meth c D A H locs ls X hP hD hS hl)
theorem gc_is3 {l0 l1 l2 : Option Value} {r : List (Option Value)} {z : Option Value} {x : Int32} (dd : decode cc pc = .ok (.istore_n 3, 1)) (hn : Nat.ble (3 + 1) nL = true) (hc : gm_lc [l0, l1, l2] = true) (g : GoC kc y cc nL fr K N (pc + 1) (l0 :: l1 :: l2 :: some (.int x) :: r) st ws k n Post) : GoC kc y cc nL fr K N pc (l0 :: l1 :: l2 :: z :: r) (.int x :: st) ws k n Post := by
  intro l p e s m args below meth c D A H locs ls X hP hD hS hl
  exact lv_istore_n X.1 X.2.1 dd rfl hl (Nat.le_of_ble_eq_true hn) rfl (fun ls' hl' => g l p e s m args below meth c D A H locs ls' X hP hD hS (gm_has1 (ad := id) (v := .int x) (L := [l0, l1, l2] ++ z :: r) hl' (gm_ok1 rfl hc)))
theorem gc_inc3 {l0 l1 l2 : Option Value} {r : List (Option Value)} {x v : Int32} {z : Int} (dd : decode cc pc = .ok (.iinc 3 z, 3)) (hv : x + Int32.ofInt z = v) (hn : Nat.ble (3 + 1) nL = true) (hc : gm_lc [l0, l1, l2] = true) (g : GoC kc y cc nL fr K N (pc + 3) (l0 :: l1 :: l2 :: some (.int v) :: r) st ws k n Post) : GoC kc y cc nL fr K N pc (l0 :: l1 :: l2 :: some (.int x) :: r) st ws k n Post := by
  intro l p e s m args below meth c D A H locs ls X hP hD hS hl
  have hx : ([l0, l1, l2] ++ some (.int x) :: r)[3]? = some (some (.int x)) := rfl
  obtain ⟨k0, hk⟩ := List.getElem?_of_mem (gm_l_mem (ad := id) hx)
  exact lv_iinc X.1 X.2.1 dd hl (k := k0) hk hv (Nat.le_of_ble_eq_true hn) rfl (fun ls' hl' => g l p e s m args below meth c D A H locs ls' X hP hD hS (gm_has1 (ad := id) (v := .int v) (L := [l0, l1, l2] ++ some (.int x) :: r) hl' (gm_ok1 rfl hc)))
theorem gc_cge {x z : Int32} {off : Int} (tgt : Nat) (dd : decode cc pc = .ok (.if_icmp .ge off, 3)) (ht : (pc : Int) + off = (tgt : Int)) (kt : z ≤ x → GoC kc y cc nL fr K N tgt L st ws k n Post) (kf : ¬ z ≤ x → GoC kc y cc nL fr K N (pc + 3) L st ws k n Post) : GoC kc y cc nL fr K N pc L (.int z :: .int x :: st) ws k n Post := by
  intro l p e s m args below meth c D A H locs ls X hP hD hS hl
  exact lv_icmp_ge X.1 X.2.1 dd ht (fun q => kt q l p e s m args below meth c D A H locs ls X hP hD hS hl) (fun q => kf q l p e s m args below meth c D A H locs ls X hP hD hS hl)
theorem gc_goto {off : Int} (tgt : Nat) (dd : decode cc pc = .ok (.goto off, 3)) (ht : (pc : Int) + off = (tgt : Int)) (g : GoC kc y cc nL fr K N tgt L st ws k n Post) : GoC kc y cc nL fr K N pc L st ws k n Post := by
  intro l p e s m args below meth c D A H locs ls X hP hD hS hl
  exact lv_goto X.1 X.2.1 dd ht (g l p e s m args below meth c D A H locs ls X hP hD hS hl)
theorem gc_vret (hk : k ≤ K) (hn : n ≤ N) (dd : decode cc pc = .ok (.return_, 1)) (h : Post ws) : GoC kc y cc nL fr K N pc L [] ws k n Post := by
  intro l p e s m args below meth c D A H locs ls X hP hD hS hl
  exact W.widen hk hn (W.vret X.1 X.2.1 X.2.2.1 (fun t ht hW => ⟨⟨ws, rfl, h, by rw [ht]; exact hP, hD, va_K.moved hW.alike X.2.2.2.2.2.2.2.1⟩, hS.F ht⟩) hS.2.2 dd X.2.2.2.2.2.2.1)
theorem gc_ac0 : Cond.arrayClass .int ∈ lw_tbl := List.mem_of_getElem? (i := 119) (by decide +kernel : lw_tbl[119]? = some (Cond.arrayClass .int))
theorem gc_ac1 : Cond.arrayClass .long ∈ lw_tbl := List.mem_of_getElem? (i := 438) (by decide +kernel : lw_tbl[438]? = some (Cond.arrayClass .long))
theorem gc_ac2 : Cond.arrayClass .boolean ∈ lw_tbl := List.mem_of_getElem? (i := 1155) (by decide +kernel : lw_tbl[1155]? = some (Cond.arrayClass .boolean))
theorem gc_ao : Cond.arrayOver (.object "CheeseEar$Sheet") ∈ lw_tbl := List.mem_of_getElem? (i := 440) (by decide +kernel : lw_tbl[440]? = some (Cond.arrayOver (.object "CheeseEar$Sheet")))
theorem gc_same {D : va_G} {s : State} {tys : List (ClassId × FieldType)} (hK : va_K D vwCl tys s) {i j : Nat} {a b : ClassId} {ty : FieldType} (hi : tys[i]? = some (a, ty)) (hj : tys[j]? = some (b, ty)) : a = b := by
  have h1 := (hK.2 i _ hi).2
  have h2 := (hK.2 j _ hj).2
  cases ty with
  | object C =>
    obtain ⟨_, _, _, _, _, e1⟩ := h1
    obtain ⟨_, _, _, _, _, e2⟩ := h2
    exact Option.some.inj (e1.symm.trans e2)
  | _ => exact Option.some.inj (Eq.trans (Eq.symm h1) h2)
theorem gc_newaI {v : Int32} (z : Nat) (hv : v = nI z) (hz : z < 2 ^ 20) (hk : k + 1 ≤ K) (hn : n + z ≤ N) (dd : decode cc pc = .ok (.newarray .int, 2)) (g : ∀ q : Nat, GoC kc y cc nL fr K N (pc + 2) L (.ref q :: st) (ws ++ [(q, .inl (kc 0, z, .inl (fun _ => 0)))]) (k + 1) (n + z) Post) : GoC kc y cc nL fr K N pc L (.int v :: st) ws k n Post := by
  intro l p e s m args below meth c D A H locs ls X hP hD hS hl
  subst hv
  have h9 : componentBytes .int ≤ 8 := by decide
  have h8 := Nat.mul_le_mul_left z h9
  have hby : z * componentBytes .int ≤ 536870912 := by omega
  refine va_newa (atype := .int) (ty := .int) (a0 := (z, .inl (fun _ => 0))) X.1 X.2.1 (gm_hw X.2.2.2.2.2.1 gc_ac0 rfl) rfl X.2.2.2.2.2.2.2.1 hP hD hS X.2.2.2.2.2.2.2.2.1 (fun cA => rfl) (nI_pos (by omega)) (nI_clamp (by omega)) hby hk hn dd (fun q cA H1 hK1 hP1 hD1 hS1 => ?_)
  have e9 : cA = kc 0 := gc_same hK1 (i := 4) (j := 0) (ty := .int) rfl rfl
  subst e9
  exact g q l p e s m args below meth c D A H1 locs ls X hP1 hD1 hS1 hl
theorem gc_newaJ {v : Int32} (z : Nat) (hv : v = nI z) (hz : z < 2 ^ 20) (hk : k + 1 ≤ K) (hn : n + z ≤ N) (dd : decode cc pc = .ok (.newarray .long, 2)) (g : ∀ q : Nat, GoC kc y cc nL fr K N (pc + 2) L (.ref q :: st) (ws ++ [(q, .inl (kc 1, z, .inr (.inl (fun _ => 0))))]) (k + 1) (n + z) Post) : GoC kc y cc nL fr K N pc L (.int v :: st) ws k n Post := by
  intro l p e s m args below meth c D A H locs ls X hP hD hS hl
  subst hv
  have h9 : componentBytes .long ≤ 8 := by decide
  have h8 := Nat.mul_le_mul_left z h9
  have hby : z * componentBytes .long ≤ 536870912 := by omega
  refine va_newa (atype := .long) (ty := .long) (a0 := (z, .inr (.inl (fun _ => 0)))) X.1 X.2.1 (gm_hw X.2.2.2.2.2.1 gc_ac1 rfl) rfl X.2.2.2.2.2.2.2.1 hP hD hS X.2.2.2.2.2.2.2.2.1 (fun cA => rfl) (nI_pos (by omega)) (nI_clamp (by omega)) hby hk hn dd (fun q cA H1 hK1 hP1 hD1 hS1 => ?_)
  have e9 : cA = kc 1 := gc_same hK1 (i := 4) (j := 1) (ty := .long) rfl rfl
  subst e9
  exact g q l p e s m args below meth c D A H1 locs ls X hP1 hD1 hS1 hl
theorem gc_newaZ {v : Int32} (z : Nat) (hv : v = nI z) (hz : z < 2 ^ 20) (hk : k + 1 ≤ K) (hn : n + z ≤ N) (dd : decode cc pc = .ok (.newarray .boolean, 2)) (g : ∀ q : Nat, GoC kc y cc nL fr K N (pc + 2) L (.ref q :: st) (ws ++ [(q, .inl (kc 2, z, .inl (fun _ => 0)))]) (k + 1) (n + z) Post) : GoC kc y cc nL fr K N pc L (.int v :: st) ws k n Post := by
  intro l p e s m args below meth c D A H locs ls X hP hD hS hl
  subst hv
  have h9 : componentBytes .boolean ≤ 8 := by decide
  have h8 := Nat.mul_le_mul_left z h9
  have hby : z * componentBytes .boolean ≤ 536870912 := by omega
  refine va_newa (atype := .boolean) (ty := .boolean) (a0 := (z, .inl (fun _ => 0))) X.1 X.2.1 (gm_hw X.2.2.2.2.2.1 gc_ac2 rfl) rfl X.2.2.2.2.2.2.2.1 hP hD hS X.2.2.2.2.2.2.2.2.1 (fun cA => rfl) (nI_pos (by omega)) (nI_clamp (by omega)) hby hk hn dd (fun q cA H1 hK1 hP1 hD1 hS1 => ?_)
  have e9 : cA = kc 2 := gc_same hK1 (i := 4) (j := 2) (ty := .boolean) rfl rfl
  subst e9
  exact g q l p e s m args below meth c D A H1 locs ls X hP1 hD1 hS1 hl
theorem gc_newq {v : Int32} {idx : Nat} (z : Nat) (hv : v = nI z) (hz : z < 2 ^ 20) (hc : Cond.classLink y.cls idx "CheeseEar$Sheet" ∈ lw_tbl) (hk : k + 1 ≤ K) (hn : n + z ≤ N) (dd : decode cc pc = .ok (.anewarray idx, 3)) (g : ∀ q : Nat, GoC kc y cc nL fr K N (pc + 3) L (.ref q :: st) (ws ++ [(q, .inl (kc 3, z, .inr (.inr (.inr (.inr (fun _ => none))))))]) (k + 1) (n + z) Post) : GoC kc y cc nL fr K N pc L (.int v :: st) ws k n Post := by
  intro l p e s m args below meth c D A H locs ls X hP hD hS hl
  subst hv
  refine va_newq X.1 X.2.1 X.2.2.2.2.1 (gm_hw X.2.2.2.2.2.1 hc rfl) X.2.2.2.2.2.2.2.2.2.2.1 X.2.2.2.2.2.2.2.1 hP hD hS X.2.2.2.2.2.2.2.2.1 (nI_pos (by omega)) (nI_clamp (by omega)) (by omega) hk hn dd (fun q cA H1 hK1 hP1 hD1 hS1 => ?_)
  have e9 : cA = kc 3 := gc_same hK1 (i := 4) (j := 3) (ty := .object "CheeseEar$Sheet") rfl rfl
  subst e9
  exact g q l p e s m args below meth c D A H1 locs ls X hP1 hD1 hS1 hl
theorem gc_new {ci Nf idx : Nat} {C : String} {T : u_T} {ty0 : Nat → FieldType} {fs : List Value} (hcl : gm_cl ci C T Nf ty0) (hfs : ∀ j, j < Nf → defaultValue (ty0 j) = vp_V fs j) (hc : Cond.classLink y.cls idx C ∈ lw_tbl) (hi : Cond.instantiable C Nf ∈ lw_tbl) (hini : Cond.initialized C ∈ lw_tbl) (hk : k + 1 ≤ K) (hn : n + Nf ≤ N) (dd : decode cc pc = .ok (.new idx, 3)) (g : ∀ q : Nat, GoC kc y cc nL fr K N (pc + 3) L (.ref q :: st) (ws ++ [(q, .inr (ci, fs))]) (k + 1) (n + Nf) Post) : GoC kc y cc nL fr K N pc L st ws k n Post := by
  intro l p e s m args below meth c D A H locs ls X hP hD hS hl
  obtain ⟨h1, h2, h3, h4⟩ := hcl
  exact va_new X.1 X.2.1 X.2.2.2.2.2.1 (gm_uw h2) ty0 h3 X.2.2.2.2.1 (gm_hw X.2.2.2.2.2.1 hc rfl) (gm_hw X.2.2.2.2.2.1 hi rfl) (gm_hw X.2.2.2.2.2.1 hini rfl) X.2.2.2.2.2.2.2.1 hP hD hS X.2.2.2.2.2.2.2.2.1 h1 hfs hk hn dd (fun q H1 hP1 hD1 hS1 => g q l p e s m args below meth c D A H1 locs ls X hP1 hD1 hS1 hl)
/-- a final field of the class itself -/
def gm_ff (own : String) (idx ci k : Nat) (ty : FieldType) : Prop := ∃ (C : String) (T : u_T) (N : Nat) (ty0 : Nat → FieldType), gm_cl ci C T N ty0 ∧ k < N ∧ Cond.fieldLink own idx (T k).1 (T k).2.1 (T k).2.2.1 ∈ lw_tbl ∧ (T k).2.2.2 = true ∧ ty0 k = ty ∧ (T k).1 = own
theorem gc_putF {idx ci j q0 a v : Nat} {fs : List Value} {ty : FieldType} (hf : gm_ff y.cls idx ci j ty) (hy : y.name = "<init>") (he : ws[q0]? = some (a, .inr (ci, fs))) (h1 : narrow ty (.ref v) = .ref v) (h2 : fits ty (.ref v) = true) (hl9 : j < fs.length) (dd : decode cc pc = .ok (.putfield idx, 3)) (g : GoC kc y cc nL fr K N (pc + 3) L st (ws.set q0 (a, .inr (ci, fs.set j (.ref v)))) k n Post) : GoC kc y cc nL fr K N pc L (.ref v :: .ref a :: st) ws k n Post := by
  intro l p e s m args below meth c D A H locs ls X hP hD hS hl
  obtain ⟨C, T, N9, ty0, ⟨c1, c2, c3, c4⟩, c5, c6, c7, c8, c9⟩ := hf
  exact va_putF X.1 X.2.1 X.2.2.2.2.2.1 (gm_uw c2) ty0 c3 c4 X.2.2.2.2.1 X.2.2.2.2.2.2.2.1 hP hD hS q0 he c1 j c5 (gm_hw X.2.2.2.2.2.1 c6 rfl) (fun _ h9 => h9) c7 (X.2.2.2.2.2.2.2.2.2.2.2.trans hy) c9 (ty := ty) (v := .ref v) (by rw [c3 j c5, c8]) h1 h2 hl9 dd (fun H1 locs1 hP1 hD1 hS1 => g l p e s m args below meth c D A H1 locs1 ls X hP1 hD1 hS1 hl)
theorem gc_putI {idx ci j q0 a : Nat} {fs : List Value} {x : Int32} {ty : FieldType} (hf : gm_fl y.cls idx ci j false ty) (he : ws[q0]? = some (a, .inr (ci, fs))) (h1 : narrow ty (.int x) = .int x) (h2 : fits ty (.int x) = true) (hl9 : j < fs.length) (dd : decode cc pc = .ok (.putfield idx, 3)) (g : GoC kc y cc nL fr K N (pc + 3) L st (ws.set q0 (a, .inr (ci, fs.set j (.int x)))) k n Post) : GoC kc y cc nL fr K N pc L (.int x :: .ref a :: st) ws k n Post := by
  intro l p e s m args below meth c D A H locs ls X hP hD hS hl
  obtain ⟨C, T, N9, ty0, ⟨c1, c2, c3, c4⟩, c5, c6, c7, c8⟩ := hf
  exact va_put X.1 X.2.1 X.2.2.2.2.2.1 (gm_uw c2) ty0 c3 c4 X.2.2.2.2.1 X.2.2.2.2.2.2.2.1 hP hD hS q0 he c1 j c5 (gm_hw X.2.2.2.2.2.1 c6 rfl) (fun _ h9 => h9) c7 (ty := ty) (v := .int x) (by rw [c3 j c5, c8]) h1 h2 hl9 dd (fun H1 locs1 hP1 hD1 hS1 => g l p e s m args below meth c D A H1 locs1 ls X hP1 hD1 hS1 hl)
theorem gc_getR {idx ci j q0 a v : Nat} {fs : List Value} {ty : FieldType} (hf : gm_fl y.cls idx ci j true ty) (he : ws[q0]? = some (a, .inr (ci, fs))) (hv : fs[j]? = some (.ref v)) (dd : decode cc pc = .ok (.getfield idx, 3)) (g : GoC kc y cc nL fr K N (pc + 3) L (.ref v :: st) ws k n Post) : GoC kc y cc nL fr K N pc L (.ref a :: st) ws k n Post := by
  intro l p e s m args below meth c D A H locs ls X hP hD hS hl
  obtain ⟨C, T, N9, ty0, ⟨c1, c2, c3, c4⟩, c5, c6, c7, c8⟩ := hf
  exact va_get X.1 X.2.1 X.2.2.2.2.2.1 (gm_uw c2) X.2.2.2.2.1 X.2.2.2.2.2.2.2.1 hP q0 he c1 j c5 (gm_hw X.2.2.2.2.2.1 c6 rfl) (fun _ h9 => h9) hv dd (g l p e s m args below meth c D A H locs ls X hP hD hS hl)
theorem gc_alenI {q0 a z : Nat} {f : Nat → Int32} (he : ws[q0]? = some (a, .inl (kc 0, z, .inl f))) (dd : decode cc pc = .ok (.arraylength, 1)) (g : GoC kc y cc nL fr K N (pc + 1) L (.int (nI z) :: st) ws k n Post) : GoC kc y cc nL fr K N pc L (.ref a :: st) ws k n Post := by
  intro l p e s m args below meth c D A H locs ls X hP hD hS hl
  exact va_alen X.1 X.2.1 X.2.2.2.2.2.2.2.1 hP q0 0 he rfl rfl dd (g l p e s m args below meth c D A H locs ls X hP hD hS hl)
theorem gc_alenR {q0 a z : Nat} {f : Nat → Option Nat} (he : ws[q0]? = some (a, .inl (kc 3, z, .inr (.inr (.inr (.inr f)))))) (dd : decode cc pc = .ok (.arraylength, 1)) (g : GoC kc y cc nL fr K N (pc + 1) L (.int (nI z) :: st) ws k n Post) : GoC kc y cc nL fr K N pc L (.ref a :: st) ws k n Post := by
  intro l p e s m args below meth c D A H locs ls X hP hD hS hl
  exact va_alen X.1 X.2.1 X.2.2.2.2.2.2.2.1 hP q0 3 he rfl rfl dd (g l p e s m args below meth c D A H locs ls X hP hD hS hl)
theorem gc_iast {q0 a z : Nat} {f : Nat → Int32} {i x : Int32} (he : ws[q0]? = some (a, .inl (kc 0, z, .inl f))) (hi : vp_in i z) (dd : decode cc pc = .ok (.iastore, 1)) (g : GoC kc y cc nL fr K N (pc + 1) L st (ws.set q0 (a, .inl (kc 0, z, .inl (upd f i.toNatClampNeg x)))) k n Post) : GoC kc y cc nL fr K N pc L (.int x :: .int i :: .ref a :: st) ws k n Post := by
  intro l p e s m args below meth c D A H locs ls X hP hD hS hl
  exact va_iast X.1 X.2.1 X.2.2.2.2.2.2.2.1 hP hD hS q0 0 he rfl hi dd (fun H1 locs1 hP1 hD1 hS1 => g l p e s m args below meth c D A H1 locs1 ls X hP1 hD1 hS1 hl)
theorem gc_aast {q0 qk a z v : Nat} {f : Nat → Option Nat} {vs : List Value} {i : Int32} (he : ws[q0]? = some (a, .inl (kc 3, z, .inr (.inr (.inr (.inr f)))))) (hv : ws[qk]? = some (v, .inr (6, vs))) (hi : vp_in i z) (dd : decode cc pc = .ok (.aastore, 1)) (g : GoC kc y cc nL fr K N (pc + 1) L st (ws.set q0 (a, .inl (kc 3, z, .inr (.inr (.inr (.inr (va_up f i.toNatClampNeg (some v)))))))) k n Post) : GoC kc y cc nL fr K N pc L (.ref v :: .int i :: .ref a :: st) ws k n Post := by
  intro l p e s m args below meth c D A H locs ls X hP hD hS hl
  exact va_astq X.1 X.2.1 X.2.2.2.2.2.2.2.1 hP hD hS q0 3 qk 6 (r := (RX6, TX6, 4)) he rfl hv rfl hi dd (fun H1 locs1 hP1 hD1 hS1 => g l p e s m args below meth c D A H1 locs1 ls X hP1 hD1 hS1 hl)
theorem gc_oi1 : Cond.instanceMethod Lib.objectInit ∈ lw_tbl := List.mem_of_getElem? (i := 92) (by decide +kernel : lw_tbl[92]? = some (Cond.instanceMethod Lib.objectInit))
theorem gc_oi2 : Cond.code Lib.objectInit ⟨#[0xb1]⟩ 1 none ∈ lw_tbl := List.mem_of_getElem? (i := 93) (by decide +kernel : lw_tbl[93]? = some (Cond.code Lib.objectInit ⟨#[0xb1]⟩ 1 none))
theorem gc_oi {idx a : Nat} (hk : Cond.methodLink y.cls idx Lib.objectInit ∈ lw_tbl) (hf : Nat.ble 1 fr = true) (dd : decode cc pc = .ok (.invokespecial idx, 3)) (g : GoC kc y cc nL fr K N (pc + 3) L [] ws k n Post) : GoC kc y cc nL fr K N pc L [.ref a] ws k n Post := by
  intro l p e s m args below meth c D A H locs ls X hP hD hS hl
  have hf1 : 1 ≤ fr := Nat.le_of_ble_eq_true hf
  refine W.objInit X.1 X.2.1 X.2.2.2.2.1 (gm_hw X.2.2.2.2.2.1 hk rfl) (gm_hw X.2.2.2.2.2.1 gc_oi1 rfl) (gm_hw X.2.2.2.2.2.1 gc_oi2 rfl) rfl (by rw [X.2.2.2.1]; exact hl.1) rfl dd hf1 (by show 0 + 0 + 12 ≤ 40 * fr; omega) ?_
  exact W.eq (g2 := F0 m (pc + 3) ls []) rfl (g l p e s m args below meth c D A H locs ls X hP hD hS hl)
theorem gc_max {idx : Nat} {x z : Int32} (hk : Cond.methodLink y.cls idx Lib.Math.max.name ∈ lw_tbl) (hf : Nat.ble 1 fr = true) (hr : Nat.ble ((st.map fun v => v.category).sum) 8 = true) (hkK : k ≤ K) (hnN : n ≤ N) (dd : decode cc pc = .ok (.invokestatic idx, 3)) (g : GoC kc y cc nL fr K N (pc + 3) L (.int (if x < z then z else x) :: st) ws k n Post) : GoC kc y cc nL fr K N pc L (.int z :: .int x :: st) ws k n Post := by
  intro l p e s m args below meth c D A H locs ls X hP hD hS hl
  have hf1 : 1 ≤ fr := Nat.le_of_ble_eq_true hf
  have hr1 := Nat.le_of_ble_eq_true hr
  exact va_mmax X.1 X.2.1 (X.2.2.2.1.trans hl.1.symm) X.2.2.2.2.1 (gm_hw X.2.2.2.2.2.1 hk rfl) (gm_hw X.2.2.2.2.2.1 gm_mx1 rfl) (gm_hw X.2.2.2.2.2.1 gm_mx2 rfl) (gm_hw X.2.2.2.2.2.1 gm_mx3 rfl) hf1 (by show _ + 13 ≤ 40 * fr; omega) hkK hnN dd (g l p e s m args below meth c D A H locs ls X hP hD hS hl)
theorem gc_blind {kc : Nat → ClassId} {D : va_G} {A : Nat → Prop} {ws : va_W} {As : List Value} : FrameBlind (va_Pc As (gc_B kc D A ws)) := by
  rintro a U g mk ⟨q0, qP, qK, qD, qA, qN, qO⟩
  exact ⟨q0, qP, va_K.moved (u := U) (U := U.calling g mk a) (Vm.Alike.refl U.vm) qK, qD, qA, gm_N.same (s := U) rfl qN, va_AO.moved (u := U) (U := U.calling g mk a) (Vm.Alike.refl U.vm) qO⟩
theorem gc_at_U {kc : Nat → ClassId} {y : MethodName} {cc : ByteArray} {nL : Nat} {p : Program} {s : State} {m : MethodId} {args : Array Value} {meth : Method} {c : Code} {D : va_G} {A : Nat → Prop} {ws : va_W} {H : Heap} {locs : List Loc} (X : gc_X y cc nL kc p s m args meth c D A) (hP : va_P D vwCl ws H) (hD : va_D A ws) (hS : va_S A s.heap H locs) {U : State} (hU : U.heap = H) (hW : s.WarmedH U.vm) : gc_B kc D A ws U :=
  ⟨by rw [hU]; exact hP, va_K.moved hW.alike X.2.2.2.2.2.2.2.1, hD, fun q h => X.2.2.2.2.2.2.2.2.1 q (Nat.le_trans hS.1 (by rw [← hU]; exact h)), X.2.2.2.2.2.2.2.2.2.1.warm hW, X.2.2.2.2.2.2.2.2.2.2.1.moved hW.alike⟩
theorem gc_room {f2 fr nL2 K2 N2 K N : Nat} (h : f2 + 1 ≤ fr) (hm : nL2 ≤ 21) : (gc_r f2 K2 N2).frames + 1 ≤ (gc_r fr K N).frames ∧ 8 + (nL2 + 11) + (gc_r f2 K2 N2).locals ≤ (gc_r fr K N).locals := by
  refine ⟨h, ?_⟩
  show 8 + (nL2 + 11) + 40 * f2 ≤ 40 * fr
  omega
theorem gc_callI {a : Nat} {As rest : List Value} {y2 : MethodName} {cc2 : ByteArray} {nL2 idx z f2 K2 N2 : Nat} {P2 : va_W → Prop} (hc : gm_cm y2 cc2 nL2 none z) (hi : Cond.instanceMethod y2 ∈ lw_tbl) (hy2 : y2.name = "<init>") (hk : Cond.methodLink y.cls idx y2 ∈ lw_tbl) (dd : decode cc pc = .ok (.invokespecial idx, 3)) (hn : As.length = z) (hf : Nat.ble (f2 + 1) fr = true) (hr : Nat.ble ((rest.map fun v => v.category).sum) 8 = true) (h1 : k + K2 ≤ K) (h2 : n + N2 ≤ N) (hS2 : SatC kc y2 cc2 nL2 f2 K2 N2 (.ref a :: As) ws P2) (g : ∀ ws', P2 ws' → GoC kc y cc nL fr K N (pc + 3) L rest ws' (k + K2) (n + N2) Post) : GoC kc y cc nL fr K N pc L (As.reverse ++ .ref a :: rest) ws k n Post := by
  intro l p e s m args below meth c D A H locs ls X hP hD hS hl
  refine va_callv (va_runI (As := As) (rest := rest) ⟨X.1, X.2.1, X.2.2.2.1, X.2.2.2.2.1, X.2.2.2.2.2.1⟩ (hS2 l D A) ⟨callB_of z X.2.2.2.2.2.1 (gm_goodIn hc.2.1) rfl rfl rfl (gm_hw X.2.2.2.2.2.1 hc.1 rfl) (gm_hw X.2.2.2.2.2.1 hk rfl) hc.2.2.1 (gc_room (Nat.le_of_ble_eq_true hf) hc.2.2.2), hy2, gm_hw X.2.2.2.2.2.1 hi rfl⟩ ⟨gc_blind, fun U hU hW => ⟨rfl, gc_at_U X hP hD hS hU hW⟩⟩ rfl hn hl.1 rfl (lv_room (Nat.le_of_ble_eq_true hr)) dd ⟨h1, h2⟩) hS (fun q _ h => h) (fun q h => h) (fun ws' t H1 locs1 ht hvm hp hB _ _ hS1 => ?_)
  exact g ws' hp l p e s m args below meth c D A H1 locs1 ls X (by rw [← ht]; exact hB.1) hB.2.1 hS1 hl
theorem gc_callIN {host : String} {a : Nat} {As rest : List Value} {y2 : MethodName} {cc2 : ByteArray} {nL2 idx z f2 K2 N2 : Nat} {P2 : va_W → Prop} (hc : gm_cm y2 cc2 nL2 none z) (hi : Cond.instanceMethod y2 ∈ lw_tbl) (hy2 : y2.name = "<init>") (hk : Cond.methodLinkNest y.cls idx y2 host ∈ lw_tbl) (dd : decode cc pc = .ok (.invokespecial idx, 3)) (hn : As.length = z) (hf : Nat.ble (f2 + 1) fr = true) (hr : Nat.ble ((rest.map fun v => v.category).sum) 8 = true) (h1 : k + K2 ≤ K) (h2 : n + N2 ≤ N) (hS2 : SatC kc y2 cc2 nL2 f2 K2 N2 (.ref a :: As) ws P2) (g : ∀ ws', P2 ws' → GoC kc y cc nL fr K N (pc + 3) L rest ws' (k + K2) (n + N2) Post) : GoC kc y cc nL fr K N pc L (As.reverse ++ .ref a :: rest) ws k n Post := by
  intro l p e s m args below meth c D A H locs ls X hP hD hS hl
  refine va_callv (va_runIN (As := As) (rest := rest) ⟨X.1, X.2.1, X.2.2.2.1, X.2.2.2.2.1, X.2.2.2.2.2.1⟩ (hS2 l D A) ⟨va_cnB z X.2.2.2.2.2.1 (gm_goodIn hc.2.1) rfl rfl rfl (X.2.2.2.2.2.2.2.2.2.1 _ hk rfl) (gm_hw X.2.2.2.2.2.1 hc.1 rfl) hc.2.2.1 (gc_room (Nat.le_of_ble_eq_true hf) hc.2.2.2), hy2, gm_hw X.2.2.2.2.2.1 hi rfl⟩ ⟨gc_blind, fun U hU hW => ⟨rfl, gc_at_U X hP hD hS hU hW⟩⟩ rfl hn hl.1 rfl (lv_room (Nat.le_of_ble_eq_true hr)) dd ⟨h1, h2⟩) hS (fun q _ h => h) (fun q h => h) (fun ws' t H1 locs1 ht hvm hp hB _ _ hS1 => ?_)
  exact g ws' hp l p e s m args below meth c D A H1 locs1 ls X (by rw [← ht]; exact hB.1) hB.2.1 hS1 hl
theorem gc_callS {As rest : List Value} {y2 : MethodName} {cc2 : ByteArray} {nL2 idx z f2 K2 N2 : Nat} {P2 : va_W → Prop} (hc : gm_cm y2 cc2 nL2 none z) (hi : Cond.static y2 ∈ lw_tbl) (hk : Cond.methodLink y.cls idx y2 ∈ lw_tbl) (dd : decode cc pc = .ok (.invokestatic idx, 3)) (hn : As.length = z) (hf : Nat.ble (f2 + 1) fr = true) (hr : Nat.ble ((rest.map fun v => v.category).sum) 8 = true) (h1 : k + K2 ≤ K) (h2 : n + N2 ≤ N) (hS2 : SatC kc y2 cc2 nL2 f2 K2 N2 (As) ws P2) (g : ∀ ws', P2 ws' → GoC kc y cc nL fr K N (pc + 3) L rest ws' (k + K2) (n + N2) Post) : GoC kc y cc nL fr K N pc L (As.reverse ++ rest) ws k n Post := by
  intro l p e s m args below meth c D A H locs ls X hP hD hS hl
  refine va_callv (va_runS (As := As) (rest := rest) ⟨X.1, X.2.1, X.2.2.2.1, X.2.2.2.2.1, X.2.2.2.2.2.1⟩ (hS2 l D A) ⟨callB_of z X.2.2.2.2.2.1 (gm_goodIn hc.2.1) rfl rfl rfl (gm_hw X.2.2.2.2.2.1 hc.1 rfl) (gm_hw X.2.2.2.2.2.1 hk rfl) hc.2.2.1 (gc_room (Nat.le_of_ble_eq_true hf) hc.2.2.2), gm_hw X.2.2.2.2.2.1 hi rfl⟩ ⟨gc_blind, fun U hU hW => ⟨rfl, gc_at_U X hP hD hS hU hW⟩⟩ rfl hn hl.1 rfl (lv_room (Nat.le_of_ble_eq_true hr)) dd ⟨h1, h2⟩) hS (fun q _ h => h) (fun q h => h) (fun ws' t H1 locs1 ht hvm hp hB _ _ hS1 => ?_)
  exact g ws' hp l p e s m args below meth c D A H1 locs1 ls X (by rw [← ht]; exact hB.1) hB.2.1 hS1 hl
end gcRows
theorem mcX0_init : gm_cm yX0_init cX0_init 1 none 0 := ⟨List.mem_of_getElem? (i := 74) (by decide +kernel : lw_tbl[74]? = some (Cond.initialized RX0)), List.mem_of_getElem? (i := 158) (by decide +kernel : lw_tbl[158]? = some (Cond.code yX0_init cX0_init 1 none)), by decide +kernel, by decide⟩
theorem miX0_init : Cond.instanceMethod yX0_init ∈ lw_tbl := List.mem_of_getElem? (i := 157) (by decide +kernel : lw_tbl[157]? = some (Cond.instanceMethod yX0_init))
theorem obX0 : Cond.methodLink RX0 3 Lib.objectInit ∈ lw_tbl := List.mem_of_getElem? (i := 159) (by decide +kernel : lw_tbl[159]? = some (Cond.methodLink RX0 3 Lib.objectInit))
theorem inX0 : Cond.instantiable RX0 3 ∈ lw_tbl := List.mem_of_getElem? (i := 155) (by decide +kernel : lw_tbl[155]? = some (Cond.instantiable RX0 3))
theorem itX0 : Cond.initialized RX0 ∈ lw_tbl := List.mem_of_getElem? (i := 74) (by decide +kernel : lw_tbl[74]? = some (Cond.initialized RX0))
theorem mcX1_init : gm_cm yX1_init cX1_init 1 none 0 := ⟨List.mem_of_getElem? (i := 70) (by decide +kernel : lw_tbl[70]? = some (Cond.initialized RX1)), List.mem_of_getElem? (i := 98) (by decide +kernel : lw_tbl[98]? = some (Cond.code yX1_init cX1_init 1 none)), by decide +kernel, by decide⟩
theorem miX1_init : Cond.instanceMethod yX1_init ∈ lw_tbl := List.mem_of_getElem? (i := 97) (by decide +kernel : lw_tbl[97]? = some (Cond.instanceMethod yX1_init))
theorem obX1 : Cond.methodLink RX1 3 Lib.objectInit ∈ lw_tbl := List.mem_of_getElem? (i := 99) (by decide +kernel : lw_tbl[99]? = some (Cond.methodLink RX1 3 Lib.objectInit))
theorem inX1 : Cond.instantiable RX1 10 ∈ lw_tbl := List.mem_of_getElem? (i := 95) (by decide +kernel : lw_tbl[95]? = some (Cond.instantiable RX1 10))
theorem itX1 : Cond.initialized RX1 ∈ lw_tbl := List.mem_of_getElem? (i := 70) (by decide +kernel : lw_tbl[70]? = some (Cond.initialized RX1))
theorem mcX2_init : gm_cm yX2_init cX2_init 2 none 1 := ⟨List.mem_of_getElem? (i := 81) (by decide +kernel : lw_tbl[81]? = some (Cond.initialized RX2)), List.mem_of_getElem? (i := 410) (by decide +kernel : lw_tbl[410]? = some (Cond.code yX2_init cX2_init 2 none)), by decide +kernel, by decide⟩
theorem miX2_init : Cond.instanceMethod yX2_init ∈ lw_tbl := List.mem_of_getElem? (i := 409) (by decide +kernel : lw_tbl[409]? = some (Cond.instanceMethod yX2_init))
theorem obX2 : Cond.methodLink RX2 3 Lib.objectInit ∈ lw_tbl := List.mem_of_getElem? (i := 411) (by decide +kernel : lw_tbl[411]? = some (Cond.methodLink RX2 3 Lib.objectInit))
theorem inX2 : Cond.instantiable RX2 7 ∈ lw_tbl := List.mem_of_getElem? (i := 407) (by decide +kernel : lw_tbl[407]? = some (Cond.instantiable RX2 7))
theorem itX2 : Cond.initialized RX2 ∈ lw_tbl := List.mem_of_getElem? (i := 81) (by decide +kernel : lw_tbl[81]? = some (Cond.initialized RX2))
theorem mcX3_init : gm_cm yX3_init cX3_init 2 none 1 := ⟨List.mem_of_getElem? (i := 80) (by decide +kernel : lw_tbl[80]? = some (Cond.initialized RX3)), List.mem_of_getElem? (i := 397) (by decide +kernel : lw_tbl[397]? = some (Cond.code yX3_init cX3_init 2 none)), by decide +kernel, by decide⟩
theorem miX3_init : Cond.instanceMethod yX3_init ∈ lw_tbl := List.mem_of_getElem? (i := 396) (by decide +kernel : lw_tbl[396]? = some (Cond.instanceMethod yX3_init))
theorem obX3 : Cond.methodLink RX3 3 Lib.objectInit ∈ lw_tbl := List.mem_of_getElem? (i := 398) (by decide +kernel : lw_tbl[398]? = some (Cond.methodLink RX3 3 Lib.objectInit))
theorem inX3 : Cond.instantiable RX3 2 ∈ lw_tbl := List.mem_of_getElem? (i := 394) (by decide +kernel : lw_tbl[394]? = some (Cond.instantiable RX3 2))
theorem itX3 : Cond.initialized RX3 ∈ lw_tbl := List.mem_of_getElem? (i := 80) (by decide +kernel : lw_tbl[80]? = some (Cond.initialized RX3))
theorem mcX4_init : gm_cm yX4_init cX4_init 3 none 1 := ⟨List.mem_of_getElem? (i := 76) (by decide +kernel : lw_tbl[76]? = some (Cond.initialized RX4)), List.mem_of_getElem? (i := 180) (by decide +kernel : lw_tbl[180]? = some (Cond.code yX4_init cX4_init 3 none)), by decide +kernel, by decide⟩
theorem miX4_init : Cond.instanceMethod yX4_init ∈ lw_tbl := List.mem_of_getElem? (i := 179) (by decide +kernel : lw_tbl[179]? = some (Cond.instanceMethod yX4_init))
theorem obX4 : Cond.methodLink RX4 3 Lib.objectInit ∈ lw_tbl := List.mem_of_getElem? (i := 181) (by decide +kernel : lw_tbl[181]? = some (Cond.methodLink RX4 3 Lib.objectInit))
theorem inX4 : Cond.instantiable RX4 4 ∈ lw_tbl := List.mem_of_getElem? (i := 177) (by decide +kernel : lw_tbl[177]? = some (Cond.instantiable RX4 4))
theorem itX4 : Cond.initialized RX4 ∈ lw_tbl := List.mem_of_getElem? (i := 76) (by decide +kernel : lw_tbl[76]? = some (Cond.initialized RX4))
theorem mcX5_init : gm_cm yX5_init cX5_init 2 none 1 := ⟨List.mem_of_getElem? (i := 79) (by decide +kernel : lw_tbl[79]? = some (Cond.initialized RX5)), List.mem_of_getElem? (i := 350) (by decide +kernel : lw_tbl[350]? = some (Cond.code yX5_init cX5_init 2 none)), by decide +kernel, by decide⟩
theorem miX5_init : Cond.instanceMethod yX5_init ∈ lw_tbl := List.mem_of_getElem? (i := 349) (by decide +kernel : lw_tbl[349]? = some (Cond.instanceMethod yX5_init))
theorem obX5 : Cond.methodLink RX5 3 Lib.objectInit ∈ lw_tbl := List.mem_of_getElem? (i := 351) (by decide +kernel : lw_tbl[351]? = some (Cond.methodLink RX5 3 Lib.objectInit))
theorem inX5 : Cond.instantiable RX5 11 ∈ lw_tbl := List.mem_of_getElem? (i := 347) (by decide +kernel : lw_tbl[347]? = some (Cond.instantiable RX5 11))
theorem itX5 : Cond.initialized RX5 ∈ lw_tbl := List.mem_of_getElem? (i := 79) (by decide +kernel : lw_tbl[79]? = some (Cond.initialized RX5))
theorem mcX6_init : gm_cm yX6_init cX6_init 1 none 0 := ⟨List.mem_of_getElem? (i := 82) (by decide +kernel : lw_tbl[82]? = some (Cond.initialized RX6)), List.mem_of_getElem? (i := 444) (by decide +kernel : lw_tbl[444]? = some (Cond.code yX6_init cX6_init 1 none)), by decide +kernel, by decide⟩
theorem miX6_init : Cond.instanceMethod yX6_init ∈ lw_tbl := List.mem_of_getElem? (i := 443) (by decide +kernel : lw_tbl[443]? = some (Cond.instanceMethod yX6_init))
theorem obX6 : Cond.methodLink RX6 3 Lib.objectInit ∈ lw_tbl := List.mem_of_getElem? (i := 445) (by decide +kernel : lw_tbl[445]? = some (Cond.methodLink RX6 3 Lib.objectInit))
theorem inX6 : Cond.instantiable RX6 4 ∈ lw_tbl := List.mem_of_getElem? (i := 441) (by decide +kernel : lw_tbl[441]? = some (Cond.instantiable RX6 4))
theorem itX6 : Cond.initialized RX6 ∈ lw_tbl := List.mem_of_getElem? (i := 82) (by decide +kernel : lw_tbl[82]? = some (Cond.initialized RX6))
theorem mcX7_init : gm_cm yX7_init cX7_init 2 none 1 := ⟨List.mem_of_getElem? (i := 78) (by decide +kernel : lw_tbl[78]? = some (Cond.initialized RX7)), List.mem_of_getElem? (i := 321) (by decide +kernel : lw_tbl[321]? = some (Cond.code yX7_init cX7_init 2 none)), by decide +kernel, by decide⟩
theorem miX7_init : Cond.instanceMethod yX7_init ∈ lw_tbl := List.mem_of_getElem? (i := 320) (by decide +kernel : lw_tbl[320]? = some (Cond.instanceMethod yX7_init))
theorem obX7 : Cond.methodLink RX7 3 Lib.objectInit ∈ lw_tbl := List.mem_of_getElem? (i := 322) (by decide +kernel : lw_tbl[322]? = some (Cond.methodLink RX7 3 Lib.objectInit))
theorem inX7 : Cond.instantiable RX7 6 ∈ lw_tbl := List.mem_of_getElem? (i := 318) (by decide +kernel : lw_tbl[318]? = some (Cond.instantiable RX7 6))
theorem itX7 : Cond.initialized RX7 ∈ lw_tbl := List.mem_of_getElem? (i := 78) (by decide +kernel : lw_tbl[78]? = some (Cond.initialized RX7))
theorem mcX8_init : gm_cm yX8_init cX8_init 2 none 1 := ⟨List.mem_of_getElem? (i := 71) (by decide +kernel : lw_tbl[71]? = some (Cond.initialized RX8)), List.mem_of_getElem? (i := 104) (by decide +kernel : lw_tbl[104]? = some (Cond.code yX8_init cX8_init 2 none)), by decide +kernel, by decide⟩
theorem miX8_init : Cond.instanceMethod yX8_init ∈ lw_tbl := List.mem_of_getElem? (i := 103) (by decide +kernel : lw_tbl[103]? = some (Cond.instanceMethod yX8_init))
theorem obX8 : Cond.methodLink RX8 3 Lib.objectInit ∈ lw_tbl := List.mem_of_getElem? (i := 105) (by decide +kernel : lw_tbl[105]? = some (Cond.methodLink RX8 3 Lib.objectInit))
theorem inX8 : Cond.instantiable RX8 2 ∈ lw_tbl := List.mem_of_getElem? (i := 101) (by decide +kernel : lw_tbl[101]? = some (Cond.instantiable RX8 2))
theorem itX8 : Cond.initialized RX8 ∈ lw_tbl := List.mem_of_getElem? (i := 71) (by decide +kernel : lw_tbl[71]? = some (Cond.initialized RX8))
theorem mcX9_init : gm_cm yX9_init cX9_init 1 none 0 := ⟨List.mem_of_getElem? (i := 77) (by decide +kernel : lw_tbl[77]? = some (Cond.initialized RX9)), List.mem_of_getElem? (i := 205) (by decide +kernel : lw_tbl[205]? = some (Cond.code yX9_init cX9_init 1 none)), by decide +kernel, by decide⟩
theorem miX9_init : Cond.instanceMethod yX9_init ∈ lw_tbl := List.mem_of_getElem? (i := 204) (by decide +kernel : lw_tbl[204]? = some (Cond.instanceMethod yX9_init))
theorem obX9 : Cond.methodLink RX9 3 Lib.objectInit ∈ lw_tbl := List.mem_of_getElem? (i := 206) (by decide +kernel : lw_tbl[206]? = some (Cond.methodLink RX9 3 Lib.objectInit))
theorem inX9 : Cond.instantiable RX9 15 ∈ lw_tbl := List.mem_of_getElem? (i := 202) (by decide +kernel : lw_tbl[202]? = some (Cond.instantiable RX9 15))
theorem itX9 : Cond.initialized RX9 ∈ lw_tbl := List.mem_of_getElem? (i := 77) (by decide +kernel : lw_tbl[77]? = some (Cond.initialized RX9))
theorem mcX10_init : gm_cm yX10_init cX10_init 1 none 0 := ⟨List.mem_of_getElem? (i := 73) (by decide +kernel : lw_tbl[73]? = some (Cond.initialized RX10)), List.mem_of_getElem? (i := 124) (by decide +kernel : lw_tbl[124]? = some (Cond.code yX10_init cX10_init 1 none)), by decide +kernel, by decide⟩
theorem miX10_init : Cond.instanceMethod yX10_init ∈ lw_tbl := List.mem_of_getElem? (i := 123) (by decide +kernel : lw_tbl[123]? = some (Cond.instanceMethod yX10_init))
theorem obX10 : Cond.methodLink RX10 3 Lib.objectInit ∈ lw_tbl := List.mem_of_getElem? (i := 125) (by decide +kernel : lw_tbl[125]? = some (Cond.methodLink RX10 3 Lib.objectInit))
theorem inX10 : Cond.instantiable RX10 7 ∈ lw_tbl := List.mem_of_getElem? (i := 121) (by decide +kernel : lw_tbl[121]? = some (Cond.instantiable RX10 7))
theorem itX10 : Cond.initialized RX10 ∈ lw_tbl := List.mem_of_getElem? (i := 73) (by decide +kernel : lw_tbl[73]? = some (Cond.initialized RX10))
theorem mcX11_init : gm_cm yX11_init cX11_init 2 none 0 := ⟨List.mem_of_getElem? (i := 69) (by decide +kernel : lw_tbl[69]? = some (Cond.initialized RX11)), List.mem_of_getElem? (i := 90) (by decide +kernel : lw_tbl[90]? = some (Cond.code yX11_init cX11_init 2 none)), by decide +kernel, by decide⟩
theorem miX11_init : Cond.instanceMethod yX11_init ∈ lw_tbl := List.mem_of_getElem? (i := 89) (by decide +kernel : lw_tbl[89]? = some (Cond.instanceMethod yX11_init))
theorem obX11 : Cond.methodLink RX11 3 Lib.objectInit ∈ lw_tbl := List.mem_of_getElem? (i := 91) (by decide +kernel : lw_tbl[91]? = some (Cond.methodLink RX11 3 Lib.objectInit))
theorem inX11 : Cond.instantiable RX11 7 ∈ lw_tbl := List.mem_of_getElem? (i := 87) (by decide +kernel : lw_tbl[87]? = some (Cond.instantiable RX11 7))
theorem itX11 : Cond.initialized RX11 ∈ lw_tbl := List.mem_of_getElem? (i := 69) (by decide +kernel : lw_tbl[69]? = some (Cond.initialized RX11))
theorem mcX12_init : gm_cm yX12_init cX12_init 1 none 0 := ⟨List.mem_of_getElem? (i := 83) (by decide +kernel : lw_tbl[83]? = some (Cond.initialized RX12)), List.mem_of_getElem? (i := 1038) (by decide +kernel : lw_tbl[1038]? = some (Cond.code yX12_init cX12_init 1 none)), by decide +kernel, by decide⟩
theorem miX12_init : Cond.instanceMethod yX12_init ∈ lw_tbl := List.mem_of_getElem? (i := 1037) (by decide +kernel : lw_tbl[1037]? = some (Cond.instanceMethod yX12_init))
theorem obX12 : Cond.methodLink RX12 1 Lib.objectInit ∈ lw_tbl := List.mem_of_getElem? (i := 1039) (by decide +kernel : lw_tbl[1039]? = some (Cond.methodLink RX12 1 Lib.objectInit))
theorem inX12 : Cond.instantiable RX12 38 ∈ lw_tbl := List.mem_of_getElem? (i := 1035) (by decide +kernel : lw_tbl[1035]? = some (Cond.instantiable RX12 38))
theorem itX12 : Cond.initialized RX12 ∈ lw_tbl := List.mem_of_getElem? (i := 83) (by decide +kernel : lw_tbl[83]? = some (Cond.initialized RX12))
theorem clL_7 : Cond.classLink RL 7 RX11 ∈ lw_tbl := List.mem_of_getElem? (i := 86) (by decide +kernel : lw_tbl[86]? = some (Cond.classLink RL 7 RX11))
theorem clX11_9 : Cond.classLink RX11 9 RX1 ∈ lw_tbl := List.mem_of_getElem? (i := 94) (by decide +kernel : lw_tbl[94]? = some (Cond.classLink RX11 9 RX1))
theorem clX1_9 : Cond.classLink RX1 9 RX8 ∈ lw_tbl := List.mem_of_getElem? (i := 100) (by decide +kernel : lw_tbl[100]? = some (Cond.classLink RX1 9 RX8))
theorem clX1_23 : Cond.classLink RX1 23 RX10 ∈ lw_tbl := List.mem_of_getElem? (i := 120) (by decide +kernel : lw_tbl[120]? = some (Cond.classLink RX1 23 RX10))
theorem clX1_30 : Cond.classLink RX1 30 RX0 ∈ lw_tbl := List.mem_of_getElem? (i := 154) (by decide +kernel : lw_tbl[154]? = some (Cond.classLink RX1 30 RX0))
theorem clX1_37 : Cond.classLink RX1 37 RX4 ∈ lw_tbl := List.mem_of_getElem? (i := 176) (by decide +kernel : lw_tbl[176]? = some (Cond.classLink RX1 37 RX4))
theorem clX1_50 : Cond.classLink RX1 50 RX9 ∈ lw_tbl := List.mem_of_getElem? (i := 201) (by decide +kernel : lw_tbl[201]? = some (Cond.classLink RX1 50 RX9))
theorem clX11_16 : Cond.classLink RX11 16 RX7 ∈ lw_tbl := List.mem_of_getElem? (i := 317) (by decide +kernel : lw_tbl[317]? = some (Cond.classLink RX11 16 RX7))
theorem clX11_25 : Cond.classLink RX11 25 RX5 ∈ lw_tbl := List.mem_of_getElem? (i := 346) (by decide +kernel : lw_tbl[346]? = some (Cond.classLink RX11 25 RX5))
theorem clX11_32 : Cond.classLink RX11 32 RX3 ∈ lw_tbl := List.mem_of_getElem? (i := 393) (by decide +kernel : lw_tbl[393]? = some (Cond.classLink RX11 32 RX3))
theorem clX11_39 : Cond.classLink RX11 39 RX2 ∈ lw_tbl := List.mem_of_getElem? (i := 406) (by decide +kernel : lw_tbl[406]? = some (Cond.classLink RX11 39 RX2))
theorem clX11_46 : Cond.classLink RX11 46 RX6 ∈ lw_tbl := List.mem_of_getElem? (i := 439) (by decide +kernel : lw_tbl[439]? = some (Cond.classLink RX11 46 RX6))
theorem clL_10 : Cond.classLink RL 10 RX12 ∈ lw_tbl := List.mem_of_getElem? (i := 1034) (by decide +kernel : lw_tbl[1034]? = some (Cond.classLink RL 10 RX12))
def fsX0 : List Value := [.null, .int 0, .int 0]
theorem dfX0 : ∀ j, j < 3 → defaultValue (tyX0 j) = vp_V fsX0 j := by
  intro j hj
  match j, hj with
  | 0, _ => rfl
  | 1, _ => rfl
  | 2, _ => rfl
def fsX1 : List Value := [.null, .null, .null, .null, .null, .null, .null, .null, .int 0, .int 0]
theorem dfX1 : ∀ j, j < 10 → defaultValue (tyX1 j) = vp_V fsX1 j := by
  intro j hj
  match j, hj with
  | 0, _ => rfl
  | 1, _ => rfl
  | 2, _ => rfl
  | 3, _ => rfl
  | 4, _ => rfl
  | 5, _ => rfl
  | 6, _ => rfl
  | 7, _ => rfl
  | 8, _ => rfl
  | 9, _ => rfl
def fsX2 : List Value := [.null, .null, .null, .long 0, .long 0, .int 0, .int 0]
theorem dfX2 : ∀ j, j < 7 → defaultValue (tyX2 j) = vp_V fsX2 j := by
  intro j hj
  match j, hj with
  | 0, _ => rfl
  | 1, _ => rfl
  | 2, _ => rfl
  | 3, _ => rfl
  | 4, _ => rfl
  | 5, _ => rfl
  | 6, _ => rfl
def fsX3 : List Value := [.null, .null]
theorem dfX3 : ∀ j, j < 2 → defaultValue (tyX3 j) = vp_V fsX3 j := by
  intro j hj
  match j, hj with
  | 0, _ => rfl
  | 1, _ => rfl
def fsX4 : List Value := [.null, .null, .null, .int 0]
theorem dfX4 : ∀ j, j < 4 → defaultValue (tyX4 j) = vp_V fsX4 j := by
  intro j hj
  match j, hj with
  | 0, _ => rfl
  | 1, _ => rfl
  | 2, _ => rfl
  | 3, _ => rfl
def fsX5 : List Value := [.null, .null, .null, .null, .int 0, .int 0, .int 0, .int 0, .int 0, .int 0, .int 0]
theorem dfX5 : ∀ j, j < 11 → defaultValue (tyX5 j) = vp_V fsX5 j := by
  intro j hj
  match j, hj with
  | 0, _ => rfl
  | 1, _ => rfl
  | 2, _ => rfl
  | 3, _ => rfl
  | 4, _ => rfl
  | 5, _ => rfl
  | 6, _ => rfl
  | 7, _ => rfl
  | 8, _ => rfl
  | 9, _ => rfl
  | 10, _ => rfl
def fsX6 : List Value := [.null, .int 0, .int 0, .int 0]
theorem dfX6 : ∀ j, j < 4 → defaultValue (tyX6 j) = vp_V fsX6 j := by
  intro j hj
  match j, hj with
  | 0, _ => rfl
  | 1, _ => rfl
  | 2, _ => rfl
  | 3, _ => rfl
def fsX7 : List Value := [.null, .null, .int 0, .int 0, .int 0, .int 0]
theorem dfX7 : ∀ j, j < 6 → defaultValue (tyX7 j) = vp_V fsX7 j := by
  intro j hj
  match j, hj with
  | 0, _ => rfl
  | 1, _ => rfl
  | 2, _ => rfl
  | 3, _ => rfl
  | 4, _ => rfl
  | 5, _ => rfl
def fsX8 : List Value := [.null, .int 0]
theorem dfX8 : ∀ j, j < 2 → defaultValue (tyX8 j) = vp_V fsX8 j := by
  intro j hj
  match j, hj with
  | 0, _ => rfl
  | 1, _ => rfl
def fsX9 : List Value := [.null, .null, .null, .null, .null, .null, .int 0, .int 0, .int 0, .int 0, .int 0, .int 0, .int 0, .int 0, .int 0]
theorem dfX9 : ∀ j, j < 15 → defaultValue (tyX9 j) = vp_V fsX9 j := by
  intro j hj
  match j, hj with
  | 0, _ => rfl
  | 1, _ => rfl
  | 2, _ => rfl
  | 3, _ => rfl
  | 4, _ => rfl
  | 5, _ => rfl
  | 6, _ => rfl
  | 7, _ => rfl
  | 8, _ => rfl
  | 9, _ => rfl
  | 10, _ => rfl
  | 11, _ => rfl
  | 12, _ => rfl
  | 13, _ => rfl
  | 14, _ => rfl
def fsX10 : List Value := [.null, .null, .null, .null, .int 0, .int 0, .int 0]
theorem dfX10 : ∀ j, j < 7 → defaultValue (tyX10 j) = vp_V fsX10 j := by
  intro j hj
  match j, hj with
  | 0, _ => rfl
  | 1, _ => rfl
  | 2, _ => rfl
  | 3, _ => rfl
  | 4, _ => rfl
  | 5, _ => rfl
  | 6, _ => rfl
def fsX11 : List Value := [.null, .null, .null, .null, .null, .null, .int 0]
theorem dfX11 : ∀ j, j < 7 → defaultValue (tyX11 j) = vp_V fsX11 j := by
  intro j hj
  match j, hj with
  | 0, _ => rfl
  | 1, _ => rfl
  | 2, _ => rfl
  | 3, _ => rfl
  | 4, _ => rfl
  | 5, _ => rfl
  | 6, _ => rfl
def fsX12 : List Value := [.null, .null, .int 0, .null, .null, .null, .null, .int 0, .null, .int 0, .int 0, .int 0, .null, .null, .int 0, .null, .null, .null, .int 0, .int 0, .null, .null, .null, .null, .null, .null, .null, .int 0, .null, .null, .null, .null, .null, .null, .null, .null, .null, .int 0]
theorem dfX12 : ∀ j, j < 38 → defaultValue (tyX12 j) = vp_V fsX12 j := by
  intro j hj
  match j, hj with
  | 0, _ => rfl
  | 1, _ => rfl
  | 2, _ => rfl
  | 3, _ => rfl
  | 4, _ => rfl
  | 5, _ => rfl
  | 6, _ => rfl
  | 7, _ => rfl
  | 8, _ => rfl
  | 9, _ => rfl
  | 10, _ => rfl
  | 11, _ => rfl
  | 12, _ => rfl
  | 13, _ => rfl
  | 14, _ => rfl
  | 15, _ => rfl
  | 16, _ => rfl
  | 17, _ => rfl
  | 18, _ => rfl
  | 19, _ => rfl
  | 20, _ => rfl
  | 21, _ => rfl
  | 22, _ => rfl
  | 23, _ => rfl
  | 24, _ => rfl
  | 25, _ => rfl
  | 26, _ => rfl
  | 27, _ => rfl
  | 28, _ => rfl
  | 29, _ => rfl
  | 30, _ => rfl
  | 31, _ => rfl
  | 32, _ => rfl
  | 33, _ => rfl
  | 34, _ => rfl
  | 35, _ => rfl
  | 36, _ => rfl
  | 37, _ => rfl
  | j9 + 38, h9 => exact absurd h9 (by omega)
theorem gX11_12 : gm_ff RX11 12 11 0 (.object "CheeseEar$Cellar") := ⟨RX11, TX11, 7, tyX11, gcX11, by decide, List.mem_of_getElem? (i := 463) (by decide +kernel : lw_tbl[463]? = some (Cond.fieldLink RX11 12 (TX11 0).1 (TX11 0).2.1 (TX11 0).2.2.1)), rfl, rfl, rfl⟩
theorem gX11_21 : gm_ff RX11 21 11 1 (.object "CheeseEar$Survey") := ⟨RX11, TX11, 7, tyX11, gcX11, by decide, List.mem_of_getElem? (i := 464) (by decide +kernel : lw_tbl[464]? = some (Cond.fieldLink RX11 21 (TX11 1).1 (TX11 1).2.1 (TX11 1).2.2.1)), rfl, rfl, rfl⟩
theorem gX11_28 : gm_ff RX11 28 11 2 (.object "CheeseEar$Plans") := ⟨RX11, TX11, 7, tyX11, gcX11, by decide, List.mem_of_getElem? (i := 465) (by decide +kernel : lw_tbl[465]? = some (Cond.fieldLink RX11 28 (TX11 2).1 (TX11 2).2.1 (TX11 2).2.2.1)), rfl, rfl, rfl⟩
theorem gX11_35 : gm_ff RX11 35 11 3 (.object "CheeseEar$Clues") := ⟨RX11, TX11, 7, tyX11, gcX11, by decide, List.mem_of_getElem? (i := 466) (by decide +kernel : lw_tbl[466]? = some (Cond.fieldLink RX11 35 (TX11 3).1 (TX11 3).2.1 (TX11 3).2.2.1)), rfl, rfl, rfl⟩
theorem gX11_42 : gm_ff RX11 42 11 4 (.object "CheeseEar$Chances") := ⟨RX11, TX11, 7, tyX11, gcX11, by decide, List.mem_of_getElem? (i := 467) (by decide +kernel : lw_tbl[467]? = some (Cond.fieldLink RX11 42 (TX11 4).1 (TX11 4).2.1 (TX11 4).2.2.1)), rfl, rfl, rfl⟩
theorem gX11_48 : gm_ff RX11 48 11 5 (.array (.object "CheeseEar$Sheet")) := ⟨RX11, TX11, 7, tyX11, gcX11, by decide, List.mem_of_getElem? (i := 468) (by decide +kernel : lw_tbl[468]? = some (Cond.fieldLink RX11 48 (TX11 5).1 (TX11 5).2.1 (TX11 5).2.2.1)), rfl, rfl, rfl⟩
theorem gX0_9 : gm_ff RX0 9 0 0 (.array .int) := ⟨RX0, TX0, 3, tyX0, gcX0, by decide, List.mem_of_getElem? (i := 163) (by decide +kernel : lw_tbl[163]? = some (Cond.fieldLink RX0 9 (TX0 0).1 (TX0 0).2.1 (TX0 0).2.2.1)), rfl, rfl, rfl⟩
theorem gX1_14 : gm_ff RX1 14 1 0 (.object "CheeseEar$Text") := ⟨RX1, TX1, 10, tyX1, gcX1, by decide, List.mem_of_getElem? (i := 272) (by decide +kernel : lw_tbl[272]? = some (Cond.fieldLink RX1 14 (TX1 0).1 (TX1 0).2.1 (TX1 0).2.2.1)), rfl, rfl, rfl⟩
theorem gX1_20 : gm_ff RX1 20 1 1 (.object "CheeseEar$Text") := ⟨RX1, TX1, 10, tyX1, gcX1, by decide, List.mem_of_getElem? (i := 274) (by decide +kernel : lw_tbl[274]? = some (Cond.fieldLink RX1 20 (TX1 1).1 (TX1 1).2.1 (TX1 1).2.2.1)), rfl, rfl, rfl⟩
theorem gX1_26 : gm_ff RX1 26 1 2 (.object "CheeseEar$Wheels") := ⟨RX1, TX1, 10, tyX1, gcX1, by decide, List.mem_of_getElem? (i := 276) (by decide +kernel : lw_tbl[276]? = some (Cond.fieldLink RX1 26 (TX1 2).1 (TX1 2).2.1 (TX1 2).2.2.1)), rfl, rfl, rfl⟩
theorem gX1_33 : gm_ff RX1 33 1 3 (.object "CheeseEar$Cave") := ⟨RX1, TX1, 10, tyX1, gcX1, by decide, List.mem_of_getElem? (i := 281) (by decide +kernel : lw_tbl[281]? = some (Cond.fieldLink RX1 33 (TX1 3).1 (TX1 3).2.1 (TX1 3).2.2.1)), rfl, rfl, rfl⟩
theorem gX1_40 : gm_ff RX1 40 1 4 (.object "CheeseEar$Marks") := ⟨RX1, TX1, 10, tyX1, gcX1, by decide, List.mem_of_getElem? (i := 283) (by decide +kernel : lw_tbl[283]? = some (Cond.fieldLink RX1 40 (TX1 4).1 (TX1 4).2.1 (TX1 4).2.2.1)), rfl, rfl, rfl⟩
theorem gX1_44 : gm_ff RX1 44 1 5 (.object "CheeseEar$Marks") := ⟨RX1, TX1, 10, tyX1, gcX1, by decide, List.mem_of_getElem? (i := 286) (by decide +kernel : lw_tbl[286]? = some (Cond.fieldLink RX1 44 (TX1 5).1 (TX1 5).2.1 (TX1 5).2.2.1)), rfl, rfl, rfl⟩
theorem gX1_47 : gm_ff RX1 47 1 6 (.object "CheeseEar$Marks") := ⟨RX1, TX1, 10, tyX1, gcX1, by decide, List.mem_of_getElem? (i := 288) (by decide +kernel : lw_tbl[288]? = some (Cond.fieldLink RX1 47 (TX1 6).1 (TX1 6).2.1 (TX1 6).2.2.1)), rfl, rfl, rfl⟩
theorem gX1_53 : gm_ff RX1 53 1 7 (.object "CheeseEar$Trial") := ⟨RX1, TX1, 10, tyX1, gcX1, by decide, List.mem_of_getElem? (i := 291) (by decide +kernel : lw_tbl[291]? = some (Cond.fieldLink RX1 53 (TX1 7).1 (TX1 7).2.1 (TX1 7).2.2.1)), rfl, rfl, rfl⟩
theorem gX2_9 : gm_ff RX2 9 2 1 (.array .long) := ⟨RX2, TX2, 7, tyX2, gcX2, by decide, List.mem_of_getElem? (i := 413) (by decide +kernel : lw_tbl[413]? = some (Cond.fieldLink RX2 9 (TX2 1).1 (TX2 1).2.1 (TX2 1).2.2.1)), rfl, rfl, rfl⟩
theorem gX2_15 : gm_ff RX2 15 2 2 (.array .long) := ⟨RX2, TX2, 7, tyX2, gcX2, by decide, List.mem_of_getElem? (i := 414) (by decide +kernel : lw_tbl[414]? = some (Cond.fieldLink RX2 15 (TX2 2).1 (TX2 2).2.1 (TX2 2).2.2.1)), rfl, rfl, rfl⟩
theorem gX2_18 : gm_ff RX2 18 2 0 (.object "CheeseEar$Cellar") := ⟨RX2, TX2, 7, tyX2, gcX2, by decide, List.mem_of_getElem? (i := 412) (by decide +kernel : lw_tbl[412]? = some (Cond.fieldLink RX2 18 (TX2 0).1 (TX2 0).2.1 (TX2 0).2.2.1)), rfl, rfl, rfl⟩
theorem gX3_11 : gm_ff RX3 11 3 1 (.array .int) := ⟨RX3, TX3, 2, tyX3, gcX3, by decide, List.mem_of_getElem? (i := 400) (by decide +kernel : lw_tbl[400]? = some (Cond.fieldLink RX3 11 (TX3 1).1 (TX3 1).2.1 (TX3 1).2.2.1)), rfl, rfl, rfl⟩
theorem gX3_15 : gm_ff RX3 15 3 0 (.object "CheeseEar$Cellar") := ⟨RX3, TX3, 2, tyX3, gcX3, by decide, List.mem_of_getElem? (i := 399) (by decide +kernel : lw_tbl[399]? = some (Cond.fieldLink RX3 15 (TX3 0).1 (TX3 0).2.1 (TX3 0).2.2.1)), rfl, rfl, rfl⟩
theorem gX4_15 : gm_ff RX4 15 4 0 (.array .int) := ⟨RX4, TX4, 4, tyX4, gcX4, by decide, List.mem_of_getElem? (i := 183) (by decide +kernel : lw_tbl[183]? = some (Cond.fieldLink RX4 15 (TX4 0).1 (TX4 0).2.1 (TX4 0).2.2.1)), rfl, rfl, rfl⟩
theorem gX4_21 : gm_ff RX4 21 4 1 (.array .int) := ⟨RX4, TX4, 4, tyX4, gcX4, by decide, List.mem_of_getElem? (i := 185) (by decide +kernel : lw_tbl[185]? = some (Cond.fieldLink RX4 21 (TX4 1).1 (TX4 1).2.1 (TX4 1).2.2.1)), rfl, rfl, rfl⟩
theorem gX4_24 : gm_ff RX4 24 4 2 (.array .int) := ⟨RX4, TX4, 4, tyX4, gcX4, by decide, List.mem_of_getElem? (i := 187) (by decide +kernel : lw_tbl[187]? = some (Cond.fieldLink RX4 24 (TX4 2).1 (TX4 2).2.1 (TX4 2).2.2.1)), rfl, rfl, rfl⟩
theorem gX5_9 : gm_ff RX5 9 5 1 (.array .int) := ⟨RX5, TX5, 11, tyX5, gcX5, by decide, List.mem_of_getElem? (i := 353) (by decide +kernel : lw_tbl[353]? = some (Cond.fieldLink RX5 9 (TX5 1).1 (TX5 1).2.1 (TX5 1).2.2.1)), rfl, rfl, rfl⟩
theorem gX5_15 : gm_ff RX5 15 5 2 (.array .int) := ⟨RX5, TX5, 11, tyX5, gcX5, by decide, List.mem_of_getElem? (i := 354) (by decide +kernel : lw_tbl[354]? = some (Cond.fieldLink RX5 15 (TX5 2).1 (TX5 2).2.1 (TX5 2).2.2.1)), rfl, rfl, rfl⟩
theorem gX5_18 : gm_ff RX5 18 5 3 (.array .int) := ⟨RX5, TX5, 11, tyX5, gcX5, by decide, List.mem_of_getElem? (i := 355) (by decide +kernel : lw_tbl[355]? = some (Cond.fieldLink RX5 18 (TX5 3).1 (TX5 3).2.1 (TX5 3).2.2.1)), rfl, rfl, rfl⟩
theorem gX5_21 : gm_ff RX5 21 5 0 (.object "CheeseEar$Cellar") := ⟨RX5, TX5, 11, tyX5, gcX5, by decide, List.mem_of_getElem? (i := 352) (by decide +kernel : lw_tbl[352]? = some (Cond.fieldLink RX5 21 (TX5 0).1 (TX5 0).2.1 (TX5 0).2.2.1)), rfl, rfl, rfl⟩
theorem gX6_9 : gm_ff RX6 9 6 0 (.array .int) := ⟨RX6, TX6, 4, tyX6, gcX6, by decide, List.mem_of_getElem? (i := 446) (by decide +kernel : lw_tbl[446]? = some (Cond.fieldLink RX6 9 (TX6 0).1 (TX6 0).2.1 (TX6 0).2.2.1)), rfl, rfl, rfl⟩
theorem gX7_9 : gm_ff RX7 9 7 1 (.array .int) := ⟨RX7, TX7, 6, tyX7, gcX7, by decide, List.mem_of_getElem? (i := 324) (by decide +kernel : lw_tbl[324]? = some (Cond.fieldLink RX7 9 (TX7 1).1 (TX7 1).2.1 (TX7 1).2.2.1)), rfl, rfl, rfl⟩
theorem gX7_15 : gm_ff RX7 15 7 0 (.object "CheeseEar$Cellar") := ⟨RX7, TX7, 6, tyX7, gcX7, by decide, List.mem_of_getElem? (i := 323) (by decide +kernel : lw_tbl[323]? = some (Cond.fieldLink RX7 15 (TX7 0).1 (TX7 0).2.1 (TX7 0).2.2.1)), rfl, rfl, rfl⟩
theorem gX8_15 : gm_ff RX8 15 8 0 (.array .int) := ⟨RX8, TX8, 2, tyX8, gcX8, by decide, List.mem_of_getElem? (i := 109) (by decide +kernel : lw_tbl[109]? = some (Cond.fieldLink RX8 15 (TX8 0).1 (TX8 0).2.1 (TX8 0).2.2.1)), rfl, rfl, rfl⟩
theorem gX9_9 : gm_ff RX9 9 9 0 (.array .int) := ⟨RX9, TX9, 15, tyX9, gcX9, by decide, List.mem_of_getElem? (i := 207) (by decide +kernel : lw_tbl[207]? = some (Cond.fieldLink RX9 9 (TX9 0).1 (TX9 0).2.1 (TX9 0).2.2.1)), rfl, rfl, rfl⟩
theorem gX9_15 : gm_ff RX9 15 9 1 (.array .int) := ⟨RX9, TX9, 15, tyX9, gcX9, by decide, List.mem_of_getElem? (i := 208) (by decide +kernel : lw_tbl[208]? = some (Cond.fieldLink RX9 15 (TX9 1).1 (TX9 1).2.1 (TX9 1).2.2.1)), rfl, rfl, rfl⟩
theorem gX9_18 : gm_ff RX9 18 9 2 (.array .int) := ⟨RX9, TX9, 15, tyX9, gcX9, by decide, List.mem_of_getElem? (i := 210) (by decide +kernel : lw_tbl[210]? = some (Cond.fieldLink RX9 18 (TX9 2).1 (TX9 2).2.1 (TX9 2).2.2.1)), rfl, rfl, rfl⟩
theorem gX9_21 : gm_ff RX9 21 9 3 (.array .int) := ⟨RX9, TX9, 15, tyX9, gcX9, by decide, List.mem_of_getElem? (i := 211) (by decide +kernel : lw_tbl[211]? = some (Cond.fieldLink RX9 21 (TX9 3).1 (TX9 3).2.1 (TX9 3).2.2.1)), rfl, rfl, rfl⟩
theorem gX9_24 : gm_ff RX9 24 9 4 (.array .int) := ⟨RX9, TX9, 15, tyX9, gcX9, by decide, List.mem_of_getElem? (i := 212) (by decide +kernel : lw_tbl[212]? = some (Cond.fieldLink RX9 24 (TX9 4).1 (TX9 4).2.1 (TX9 4).2.2.1)), rfl, rfl, rfl⟩
theorem gX9_27 : gm_ff RX9 27 9 5 (.array .int) := ⟨RX9, TX9, 15, tyX9, gcX9, by decide, List.mem_of_getElem? (i := 213) (by decide +kernel : lw_tbl[213]? = some (Cond.fieldLink RX9 27 (TX9 5).1 (TX9 5).2.1 (TX9 5).2.2.1)), rfl, rfl, rfl⟩
theorem gX10_9 : gm_ff RX10 9 10 0 (.array .int) := ⟨RX10, TX10, 7, tyX10, gcX10, by decide, List.mem_of_getElem? (i := 126) (by decide +kernel : lw_tbl[126]? = some (Cond.fieldLink RX10 9 (TX10 0).1 (TX10 0).2.1 (TX10 0).2.2.1)), rfl, rfl, rfl⟩
theorem gX10_15 : gm_ff RX10 15 10 1 (.array .int) := ⟨RX10, TX10, 7, tyX10, gcX10, by decide, List.mem_of_getElem? (i := 127) (by decide +kernel : lw_tbl[127]? = some (Cond.fieldLink RX10 15 (TX10 1).1 (TX10 1).2.1 (TX10 1).2.2.1)), rfl, rfl, rfl⟩
theorem gX10_18 : gm_ff RX10 18 10 2 (.array .int) := ⟨RX10, TX10, 7, tyX10, gcX10, by decide, List.mem_of_getElem? (i := 128) (by decide +kernel : lw_tbl[128]? = some (Cond.fieldLink RX10 18 (TX10 2).1 (TX10 2).2.1 (TX10 2).2.2.1)), rfl, rfl, rfl⟩
theorem gX10_21 : gm_ff RX10 21 10 3 (.array .int) := ⟨RX10, TX10, 7, tyX10, gcX10, by decide, List.mem_of_getElem? (i := 129) (by decide +kernel : lw_tbl[129]? = some (Cond.fieldLink RX10 21 (TX10 3).1 (TX10 3).2.1 (TX10 3).2.2.1)), rfl, rfl, rfl⟩
theorem gX12_7 : gm_ff RX12 7 12 0 (.array .int) := ⟨RX12, TX12, 38, tyX12, gcX12, by decide, List.mem_of_getElem? (i := 1040) (by decide +kernel : lw_tbl[1040]? = some (Cond.fieldLink RX12 7 (TX12 0).1 (TX12 0).2.1 (TX12 0).2.2.1)), rfl, rfl, rfl⟩
theorem gX12_13 : gm_ff RX12 13 12 1 (.array .int) := ⟨RX12, TX12, 38, tyX12, gcX12, by decide, List.mem_of_getElem? (i := 1041) (by decide +kernel : lw_tbl[1041]? = some (Cond.fieldLink RX12 13 (TX12 1).1 (TX12 1).2.1 (TX12 1).2.2.1)), rfl, rfl, rfl⟩
theorem gX12_16 : gm_ff RX12 16 12 3 (.array .int) := ⟨RX12, TX12, 38, tyX12, gcX12, by decide, List.mem_of_getElem? (i := 1043) (by decide +kernel : lw_tbl[1043]? = some (Cond.fieldLink RX12 16 (TX12 3).1 (TX12 3).2.1 (TX12 3).2.2.1)), rfl, rfl, rfl⟩
theorem gX12_19 : gm_ff RX12 19 12 4 (.array .int) := ⟨RX12, TX12, 38, tyX12, gcX12, by decide, List.mem_of_getElem? (i := 1044) (by decide +kernel : lw_tbl[1044]? = some (Cond.fieldLink RX12 19 (TX12 4).1 (TX12 4).2.1 (TX12 4).2.2.1)), rfl, rfl, rfl⟩
theorem gX12_22 : gm_ff RX12 22 12 5 (.array .int) := ⟨RX12, TX12, 38, tyX12, gcX12, by decide, List.mem_of_getElem? (i := 1045) (by decide +kernel : lw_tbl[1045]? = some (Cond.fieldLink RX12 22 (TX12 5).1 (TX12 5).2.1 (TX12 5).2.2.1)), rfl, rfl, rfl⟩
theorem gX12_25 : gm_ff RX12 25 12 6 (.array .int) := ⟨RX12, TX12, 38, tyX12, gcX12, by decide, List.mem_of_getElem? (i := 1046) (by decide +kernel : lw_tbl[1046]? = some (Cond.fieldLink RX12 25 (TX12 6).1 (TX12 6).2.1 (TX12 6).2.2.1)), rfl, rfl, rfl⟩
theorem gX12_28 : gm_ff RX12 28 12 8 (.array .int) := ⟨RX12, TX12, 38, tyX12, gcX12, by decide, List.mem_of_getElem? (i := 1048) (by decide +kernel : lw_tbl[1048]? = some (Cond.fieldLink RX12 28 (TX12 8).1 (TX12 8).2.1 (TX12 8).2.2.1)), rfl, rfl, rfl⟩
theorem gX12_31 : gm_ff RX12 31 12 12 (.array .int) := ⟨RX12, TX12, 38, tyX12, gcX12, by decide, List.mem_of_getElem? (i := 1052) (by decide +kernel : lw_tbl[1052]? = some (Cond.fieldLink RX12 31 (TX12 12).1 (TX12 12).2.1 (TX12 12).2.2.1)), rfl, rfl, rfl⟩
theorem gX12_34 : gm_ff RX12 34 12 13 (.array .int) := ⟨RX12, TX12, 38, tyX12, gcX12, by decide, List.mem_of_getElem? (i := 1053) (by decide +kernel : lw_tbl[1053]? = some (Cond.fieldLink RX12 34 (TX12 13).1 (TX12 13).2.1 (TX12 13).2.2.1)), rfl, rfl, rfl⟩
theorem gX12_37 : gm_ff RX12 37 12 15 (.array .int) := ⟨RX12, TX12, 38, tyX12, gcX12, by decide, List.mem_of_getElem? (i := 1055) (by decide +kernel : lw_tbl[1055]? = some (Cond.fieldLink RX12 37 (TX12 15).1 (TX12 15).2.1 (TX12 15).2.2.1)), rfl, rfl, rfl⟩
theorem gX12_40 : gm_ff RX12 40 12 16 (.array .int) := ⟨RX12, TX12, 38, tyX12, gcX12, by decide, List.mem_of_getElem? (i := 1056) (by decide +kernel : lw_tbl[1056]? = some (Cond.fieldLink RX12 40 (TX12 16).1 (TX12 16).2.1 (TX12 16).2.2.1)), rfl, rfl, rfl⟩
theorem gX12_43 : gm_ff RX12 43 12 17 (.array .int) := ⟨RX12, TX12, 38, tyX12, gcX12, by decide, List.mem_of_getElem? (i := 1057) (by decide +kernel : lw_tbl[1057]? = some (Cond.fieldLink RX12 43 (TX12 17).1 (TX12 17).2.1 (TX12 17).2.2.1)), rfl, rfl, rfl⟩
theorem gX12_46 : gm_ff RX12 46 12 20 (.array .int) := ⟨RX12, TX12, 38, tyX12, gcX12, by decide, List.mem_of_getElem? (i := 1060) (by decide +kernel : lw_tbl[1060]? = some (Cond.fieldLink RX12 46 (TX12 20).1 (TX12 20).2.1 (TX12 20).2.2.1)), rfl, rfl, rfl⟩
theorem gX12_49 : gm_ff RX12 49 12 21 (.array .int) := ⟨RX12, TX12, 38, tyX12, gcX12, by decide, List.mem_of_getElem? (i := 1061) (by decide +kernel : lw_tbl[1061]? = some (Cond.fieldLink RX12 49 (TX12 21).1 (TX12 21).2.1 (TX12 21).2.2.1)), rfl, rfl, rfl⟩
theorem gX12_52 : gm_ff RX12 52 12 22 (.array .int) := ⟨RX12, TX12, 38, tyX12, gcX12, by decide, List.mem_of_getElem? (i := 1062) (by decide +kernel : lw_tbl[1062]? = some (Cond.fieldLink RX12 52 (TX12 22).1 (TX12 22).2.1 (TX12 22).2.2.1)), rfl, rfl, rfl⟩
theorem gX12_55 : gm_ff RX12 55 12 23 (.array .int) := ⟨RX12, TX12, 38, tyX12, gcX12, by decide, List.mem_of_getElem? (i := 1063) (by decide +kernel : lw_tbl[1063]? = some (Cond.fieldLink RX12 55 (TX12 23).1 (TX12 23).2.1 (TX12 23).2.2.1)), rfl, rfl, rfl⟩
theorem gX12_58 : gm_ff RX12 58 12 24 (.array .int) := ⟨RX12, TX12, 38, tyX12, gcX12, by decide, List.mem_of_getElem? (i := 1064) (by decide +kernel : lw_tbl[1064]? = some (Cond.fieldLink RX12 58 (TX12 24).1 (TX12 24).2.1 (TX12 24).2.2.1)), rfl, rfl, rfl⟩
theorem gX12_61 : gm_ff RX12 61 12 25 (.array .int) := ⟨RX12, TX12, 38, tyX12, gcX12, by decide, List.mem_of_getElem? (i := 1065) (by decide +kernel : lw_tbl[1065]? = some (Cond.fieldLink RX12 61 (TX12 25).1 (TX12 25).2.1 (TX12 25).2.2.1)), rfl, rfl, rfl⟩
theorem gX12_64 : gm_ff RX12 64 12 26 (.array .int) := ⟨RX12, TX12, 38, tyX12, gcX12, by decide, List.mem_of_getElem? (i := 1066) (by decide +kernel : lw_tbl[1066]? = some (Cond.fieldLink RX12 64 (TX12 26).1 (TX12 26).2.1 (TX12 26).2.2.1)), rfl, rfl, rfl⟩
theorem gX12_67 : gm_ff RX12 67 12 28 (.array .int) := ⟨RX12, TX12, 38, tyX12, gcX12, by decide, List.mem_of_getElem? (i := 1068) (by decide +kernel : lw_tbl[1068]? = some (Cond.fieldLink RX12 67 (TX12 28).1 (TX12 28).2.1 (TX12 28).2.2.1)), rfl, rfl, rfl⟩
theorem gX12_70 : gm_ff RX12 70 12 29 (.array .int) := ⟨RX12, TX12, 38, tyX12, gcX12, by decide, List.mem_of_getElem? (i := 1069) (by decide +kernel : lw_tbl[1069]? = some (Cond.fieldLink RX12 70 (TX12 29).1 (TX12 29).2.1 (TX12 29).2.2.1)), rfl, rfl, rfl⟩
theorem gX12_73 : gm_ff RX12 73 12 30 (.array .int) := ⟨RX12, TX12, 38, tyX12, gcX12, by decide, List.mem_of_getElem? (i := 1070) (by decide +kernel : lw_tbl[1070]? = some (Cond.fieldLink RX12 73 (TX12 30).1 (TX12 30).2.1 (TX12 30).2.2.1)), rfl, rfl, rfl⟩
theorem gX12_76 : gm_ff RX12 76 12 31 (.array .int) := ⟨RX12, TX12, 38, tyX12, gcX12, by decide, List.mem_of_getElem? (i := 1071) (by decide +kernel : lw_tbl[1071]? = some (Cond.fieldLink RX12 76 (TX12 31).1 (TX12 31).2.1 (TX12 31).2.2.1)), rfl, rfl, rfl⟩
theorem gX12_79 : gm_ff RX12 79 12 32 (.array .boolean) := ⟨RX12, TX12, 38, tyX12, gcX12, by decide, List.mem_of_getElem? (i := 1072) (by decide +kernel : lw_tbl[1072]? = some (Cond.fieldLink RX12 79 (TX12 32).1 (TX12 32).2.1 (TX12 32).2.2.1)), rfl, rfl, rfl⟩
theorem gX12_83 : gm_ff RX12 83 12 33 (.array .int) := ⟨RX12, TX12, 38, tyX12, gcX12, by decide, List.mem_of_getElem? (i := 1073) (by decide +kernel : lw_tbl[1073]? = some (Cond.fieldLink RX12 83 (TX12 33).1 (TX12 33).2.1 (TX12 33).2.2.1)), rfl, rfl, rfl⟩
theorem gX12_86 : gm_ff RX12 86 12 34 (.array .int) := ⟨RX12, TX12, 38, tyX12, gcX12, by decide, List.mem_of_getElem? (i := 1074) (by decide +kernel : lw_tbl[1074]? = some (Cond.fieldLink RX12 86 (TX12 34).1 (TX12 34).2.1 (TX12 34).2.2.1)), rfl, rfl, rfl⟩
theorem gX12_89 : gm_ff RX12 89 12 35 (.array .int) := ⟨RX12, TX12, 38, tyX12, gcX12, by decide, List.mem_of_getElem? (i := 1075) (by decide +kernel : lw_tbl[1075]? = some (Cond.fieldLink RX12 89 (TX12 35).1 (TX12 35).2.1 (TX12 35).2.2.1)), rfl, rfl, rfl⟩
theorem gX12_92 : gm_ff RX12 92 12 36 (.array .int) := ⟨RX12, TX12, 38, tyX12, gcX12, by decide, List.mem_of_getElem? (i := 1076) (by decide +kernel : lw_tbl[1076]? = some (Cond.fieldLink RX12 92 (TX12 36).1 (TX12 36).2.1 (TX12 36).2.2.1)), rfl, rfl, rfl⟩
