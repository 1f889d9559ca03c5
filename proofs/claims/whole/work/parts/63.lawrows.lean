/-! THE CLAIM OUT OF ONE WALK OF THE LAW'S BODY. Your part is whole_start (and what it stands on); all else here is the same for every law, but numbers. -/
def R_law : String := "CheeseEarLaw"
def lw_P (b : Addr) (xs : List Int32) (args : Array Value) (s : State) : Prop := args = #[.ref b] ∧ s.IntsAt b xs ∧ xs.length ≤ 3072 ∧ (Jvm.Cond.and given_1 narrow_1).before args s = true
def lw_Q (_ : Array Value) (s : State) (o : Outcome) (t : State) : Prop := o = .returned (some (.int 1)) ∧ Framed s o t [] 600000 7302250
def lw_Z (below : List Frame) (a : Array Value) (s : State) : State → Prop := fun t => ∃ o, t.status = .running ∧ Ended t below o ∧ lw_Q a s o t
/-- the law's own end, with 1 on the stack, nothing written that was there before, its room as the claim has it -/
theorem lw_ret {p : Program} {l : Launch} {e : Env} {s : State} {m : MethodId} {below : List Frame} {meth : Method} {c : Code} {b : Nat} (hx : p.tables.exec = Jvm.exec) (hb : c.code = code) (hr : meth.sig.returnType = ret) (hlocks : meth.locks = false) {pc : Nat} {H : Heap} {ls : Array Slot} (hdg : decode code pc = .ok (.ireturn, 1)) : W p l e room_1 s m #[Value.ref b] below meth c H [] 600000 7302250 (lw_Z below #[Value.ref b] s) (F0 m pc ls [.int 1]) := by
  intro T hT X
  obtain ⟨fs, hret, hrun, hended, hW, hframe⟩ := X.leave (v := some (.int 1)) (hlocks := hlocks) (fun h => by rw [hr] at h; cases h)
  have hmeth' : T.vm.method? m = some meth := X.method'
  refine ⟨T.setFrames fs, ?_, .returned (some (.int 1)), hrun, hended, rfl, ⟨_, rfl⟩, hW, hframe⟩
  jvm_step X.here [X.here.top, hx, hb, hdg, hmeth', hr, ret, narrow_b1]
  (try refine ⟨rfl, ?_⟩); (try refine ⟨rfl, ?_⟩)
  first | (intro acts; rw [hret _ acts rfl rfl rfl]) | rw [hret _ _ rfl rfl rfl]
  exact Steps.refl _
/-- what holds at the law's entry: the machine, the code, the tables' words (any of lw_tbl by 'hts w (by decide +kernel)'), the script of L ints xs at the cell b, what the Statement gives of the start (any of its parts by flat_of_before) -/
def lw_At (p : Program) (s : State) (m : MethodId) (meth : Method) (c : Code) (b L : Nat) (xs : Nat → Int32) : Prop :=
  p.tables.exec = Jvm.exec ∧ c.code = code ∧ meth.sig.returnType = ret ∧ c.maxLocals = 4 ∧ s.vm.findClass R_law = some m.cls ∧ (∀ w ∈ lw_tbl, w.before #[Value.ref b] s = true) ∧ va_X b L xs s s.heap ∧ b < s.heap.size ∧ meth.locks = false ∧ (Jvm.Cond.and given_1 narrow_1).before #[Value.ref b] s = true
/-! THE LAW: its own judgement, over the two halves' memory; the script is cell 83 -/
theorem CA.out {r : RS} {μ μ' : gm_M} (h : CA r μ) (e : FrR 52 80 μ μ') : CA r μ' :=
  ⟨h.1, h.2.1.cong (fun c hc => e c (by omega)), h.2.2.1.cong (fun c hc => e c (by omega)), h.2.2.2.1.cong (fun c hc => e c (by omega)), h.2.2.2.2.cong (fun c hc => e c (by omega))⟩
theorem MA.out {r : RS} {m m' : gm_M} (h : MA r m) (e : FrR 0 51 m m') : MA r m' :=
  ⟨h.1, h.2.1.cong (fun c hc => e c (by omega)), h.2.2.1.cong (fun c hc => e c (by omega)), h.2.2.2.1.cong (fun c hc => e c (by omega)) (fun k _ => by rw [e 52 (by omega)]), h.2.2.2.2.cong (fun c hc => e c (by omega)) (by rw [e 52 (by omega)])⟩
def lw_X (Ln : Nat) (xs : Nat → Int32) (p : Program) (s : State) (m : MethodId) (meth : Method) (c : Code) (D : va_G) (ad : Nat → Nat) (kc : Nat → ClassId) : Prop :=
  p.tables.exec = Jvm.exec ∧ c.code = cL_law ∧ meth.sig.returnType = ret ∧ c.maxLocals = 4 ∧ s.vm.findClass RL = some m.cls ∧ (∀ w ∈ gm_tb, w.before #[Value.ref (ad 83)] s = true) ∧ meth.locks = false ∧ va_K D vwCl (gm_tl kc) s ∧ gm_inj ad ∧ gm_S ad s ∧ gm_N s ∧ va_X (ad 83) Ln xs s s.heap ∧ ad 83 < s.heap.size ∧ (∀ k, k < 81 → s.heap.size ≤ ad k)
def GoL (Ln : Nat) (xs : Nat → Int32) (pc : Nat) (L : List (Option Value)) (st : List Value) (μ : gm_M) : Prop :=
  ∀ (l : Launch) (p : Program) (e : Env) (s : State) (m : MethodId) (below : List Frame) (meth : Method) (c : Code) (D : va_G) (ad : Nat → Nat) (kc : Nat → ClassId) (H : Heap) (locs : List Loc) (ls : Array Slot),
    lw_X Ln xs p s m meth c D ad kc → va_P D vwCl (gm_w ad kc μ) H → va_S (fun q => s.heap.size ≤ q) s.heap H locs → lv_has ls 4 (gm_l ad L) →
    W p l e room_1 s m #[Value.ref (ad 83)] below meth c H locs 600000 7302250 (lw_Z below #[Value.ref (ad 83)] s) (F0 m pc ls (st.map (gm_v ad)))
section glRows
variable {Ln : Nat} {xs : Nat → Int32} {pc : Nat} {L : List (Option Value)} {st : List Value} {μ : gm_M}
theorem gl_ic0  (dd : decode cL_law pc = .ok (.iconst 0, 1))  (g : GoL Ln xs (pc + 1) L (.int 0 :: st) μ) : GoL Ln xs pc L (st) μ := by
  intro l p e s m below meth c D ad kc H locs ls X hP hS hl
  exact lv_iconst X.1 X.2.1 dd (by decide) (g l p e s m below meth c D ad kc H locs ls X hP hS hl)
theorem gl_ic1  (dd : decode cL_law pc = .ok (.iconst 1, 1))  (g : GoL Ln xs (pc + 1) L (.int 1 :: st) μ) : GoL Ln xs pc L (st) μ := by
  intro l p e s m below meth c D ad kc H locs ls X hP hS hl
  exact lv_iconst X.1 X.2.1 dd (by decide) (g l p e s m below meth c D ad kc H locs ls X hP hS hl)
theorem gl_ic2  (dd : decode cL_law pc = .ok (.iconst 2, 1))  (g : GoL Ln xs (pc + 1) L (.int 2 :: st) μ) : GoL Ln xs pc L (st) μ := by
  intro l p e s m below meth c D ad kc H locs ls X hP hS hl
  exact lv_iconst X.1 X.2.1 dd (by decide) (g l p e s m below meth c D ad kc H locs ls X hP hS hl)
theorem gl_ic3  (dd : decode cL_law pc = .ok (.iconst 3, 1))  (g : GoL Ln xs (pc + 1) L (.int 3 :: st) μ) : GoL Ln xs pc L (st) μ := by
  intro l p e s m below meth c D ad kc H locs ls X hP hS hl
  exact lv_iconst X.1 X.2.1 dd (by decide) (g l p e s m below meth c D ad kc H locs ls X hP hS hl)
theorem gl_ic4  (dd : decode cL_law pc = .ok (.iconst 4, 1))  (g : GoL Ln xs (pc + 1) L (.int 4 :: st) μ) : GoL Ln xs pc L (st) μ := by
  intro l p e s m below meth c D ad kc H locs ls X hP hS hl
  exact lv_iconst X.1 X.2.1 dd (by decide) (g l p e s m below meth c D ad kc H locs ls X hP hS hl)
theorem gl_ic5  (dd : decode cL_law pc = .ok (.iconst 5, 1))  (g : GoL Ln xs (pc + 1) L (.int 5 :: st) μ) : GoL Ln xs pc L (st) μ := by
  intro l p e s m below meth c D ad kc H locs ls X hP hS hl
  exact lv_iconst X.1 X.2.1 dd (by decide) (g l p e s m below meth c D ad kc H locs ls X hP hS hl)
theorem gl_bipush {z : Int} {v : Int32} (dd : decode cL_law pc = .ok (.bipush z, 2)) (hv : (Int8.ofInt z).toInt32 = v) (g : GoL Ln xs (pc + 2) L (.int v :: st) μ) : GoL Ln xs pc L (st) μ := by
  intro l p e s m below meth c D ad kc H locs ls X hP hS hl
  exact lv_bipush X.1 X.2.1 dd hv (g l p e s m below meth c D ad kc H locs ls X hP hS hl)
theorem gl_iadd {x z : Int32} (dd : decode cL_law pc = .ok (.iadd, 1))  (g : GoL Ln xs (pc + 1) L (.int (x + z) :: st) μ) : GoL Ln xs pc L (.int z :: .int x :: st) μ := by
  intro l p e s m below meth c D ad kc H locs ls X hP hS hl
  exact lv_iadd X.1 X.2.1 dd (g l p e s m below meth c D ad kc H locs ls X hP hS hl)
theorem gl_isub {x z : Int32} (dd : decode cL_law pc = .ok (.isub, 1))  (g : GoL Ln xs (pc + 1) L (.int (x - z) :: st) μ) : GoL Ln xs pc L (.int z :: .int x :: st) μ := by
  intro l p e s m below meth c D ad kc H locs ls X hP hS hl
  exact lv_isub X.1 X.2.1 dd (g l p e s m below meth c D ad kc H locs ls X hP hS hl)
theorem gl_iand {x z : Int32} (dd : decode cL_law pc = .ok (.iand, 1))  (g : GoL Ln xs (pc + 1) L (.int (x &&& z) :: st) μ) : GoL Ln xs pc L (.int z :: .int x :: st) μ := by
  intro l p e s m below meth c D ad kc H locs ls X hP hS hl
  exact lv_iand X.1 X.2.1 dd (g l p e s m below meth c D ad kc H locs ls X hP hS hl)
theorem gl_lcmp {x z : Int64} (dd : decode cL_law pc = .ok (.lcmp, 1))  (g : GoL Ln xs (pc + 1) L (.int (lg_cmp x z) :: st) μ) : GoL Ln xs pc L (.long z :: .long x :: st) μ := by
  intro l p e s m below meth c D ad kc H locs ls X hP hS hl
  exact W.lcmp X.1 X.2.1 dd (g l p e s m below meth c D ad kc H locs ls X hP hS hl)
theorem gl_il0 {r : List (Option Value)} {x : Int32} (dd : decode cL_law pc = .ok (.iload_n 0, 1)) (g : GoL Ln xs (pc + 1) (some (.int x) :: r) (.int x :: st) μ) : GoL Ln xs pc (some (.int x) :: r) st μ := by
  intro l p e s m below meth c D ad kc H locs ls X hP hS hl
  exact lv_iload_n X.1 X.2.1 dd rfl (gm_has_at hl (i := 0) rfl) (g l p e s m below meth c D ad kc H locs ls X hP hS hl)
theorem gl_al0 {r : List (Option Value)} {x : Nat} (dd : decode cL_law pc = .ok (.aload_n 0, 1)) (g : GoL Ln xs (pc + 1) (some (.ref x) :: r) (.ref x :: st) μ) : GoL Ln xs pc (some (.ref x) :: r) st μ := by
  intro l p e s m below meth c D ad kc H locs ls X hP hS hl
  exact lv_aload_n X.1 X.2.1 dd rfl (gm_has_at hl (i := 0) rfl) (g l p e s m below meth c D ad kc H locs ls X hP hS hl)
theorem gl_il1 {l0 : Option Value} {r : List (Option Value)} {x : Int32} (dd : decode cL_law pc = .ok (.iload_n 1, 1)) (g : GoL Ln xs (pc + 1) (l0 :: some (.int x) :: r) (.int x :: st) μ) : GoL Ln xs pc (l0 :: some (.int x) :: r) st μ := by
  intro l p e s m below meth c D ad kc H locs ls X hP hS hl
  exact lv_iload_n X.1 X.2.1 dd rfl (gm_has_at hl (i := 1) rfl) (g l p e s m below meth c D ad kc H locs ls X hP hS hl)
theorem gl_al1 {l0 : Option Value} {r : List (Option Value)} {x : Nat} (dd : decode cL_law pc = .ok (.aload_n 1, 1)) (g : GoL Ln xs (pc + 1) (l0 :: some (.ref x) :: r) (.ref x :: st) μ) : GoL Ln xs pc (l0 :: some (.ref x) :: r) st μ := by
  intro l p e s m below meth c D ad kc H locs ls X hP hS hl
  exact lv_aload_n X.1 X.2.1 dd rfl (gm_has_at hl (i := 1) rfl) (g l p e s m below meth c D ad kc H locs ls X hP hS hl)
theorem gl_il2 {l0 l1 : Option Value} {r : List (Option Value)} {x : Int32} (dd : decode cL_law pc = .ok (.iload_n 2, 1)) (g : GoL Ln xs (pc + 1) (l0 :: l1 :: some (.int x) :: r) (.int x :: st) μ) : GoL Ln xs pc (l0 :: l1 :: some (.int x) :: r) st μ := by
  intro l p e s m below meth c D ad kc H locs ls X hP hS hl
  exact lv_iload_n X.1 X.2.1 dd rfl (gm_has_at hl (i := 2) rfl) (g l p e s m below meth c D ad kc H locs ls X hP hS hl)
theorem gl_al2 {l0 l1 : Option Value} {r : List (Option Value)} {x : Nat} (dd : decode cL_law pc = .ok (.aload_n 2, 1)) (g : GoL Ln xs (pc + 1) (l0 :: l1 :: some (.ref x) :: r) (.ref x :: st) μ) : GoL Ln xs pc (l0 :: l1 :: some (.ref x) :: r) st μ := by
  intro l p e s m below meth c D ad kc H locs ls X hP hS hl
  exact lv_aload_n X.1 X.2.1 dd rfl (gm_has_at hl (i := 2) rfl) (g l p e s m below meth c D ad kc H locs ls X hP hS hl)
theorem gl_il3 {l0 l1 l2 : Option Value} {r : List (Option Value)} {x : Int32} (dd : decode cL_law pc = .ok (.iload_n 3, 1)) (g : GoL Ln xs (pc + 1) (l0 :: l1 :: l2 :: some (.int x) :: r) (.int x :: st) μ) : GoL Ln xs pc (l0 :: l1 :: l2 :: some (.int x) :: r) st μ := by
  intro l p e s m below meth c D ad kc H locs ls X hP hS hl
  exact lv_iload_n X.1 X.2.1 dd rfl (gm_has_at hl (i := 3) rfl) (g l p e s m below meth c D ad kc H locs ls X hP hS hl)
theorem gl_al3 {l0 l1 l2 : Option Value} {r : List (Option Value)} {x : Nat} (dd : decode cL_law pc = .ok (.aload_n 3, 1)) (g : GoL Ln xs (pc + 1) (l0 :: l1 :: l2 :: some (.ref x) :: r) (.ref x :: st) μ) : GoL Ln xs pc (l0 :: l1 :: l2 :: some (.ref x) :: r) st μ := by
  intro l p e s m below meth c D ad kc H locs ls X hP hS hl
  exact lv_aload_n X.1 X.2.1 dd rfl (gm_has_at hl (i := 3) rfl) (g l p e s m below meth c D ad kc H locs ls X hP hS hl)
theorem gl_inc3 {l0 l1 l2 : Option Value} {r : List (Option Value)} {x v : Int32} {z : Int} (dd : decode cL_law pc = .ok (.iinc 3 z, 3)) (hv : x + Int32.ofInt z = v) (hc : gm_lc [l0, l1, l2] = true) (g : GoL Ln xs (pc + 3) (l0 :: l1 :: l2 :: some (.int v) :: r) st μ) : GoL Ln xs pc (l0 :: l1 :: l2 :: some (.int x) :: r) st μ := by
  intro l p e s m below meth c D ad kc H locs ls X hP hS hl
  have hx : ([l0, l1, l2] ++ some (.int x) :: r)[3]? = some (some (.int x)) := rfl
  obtain ⟨k0, hk⟩ := List.getElem?_of_mem (gm_l_mem (ad := ad) hx)
  exact lv_iinc X.1 X.2.1 dd hl (k := k0) hk hv (by decide) rfl (fun ls' hl' => g l p e s m below meth c D ad kc H locs ls' X hP hS (gm_has1 (ad := ad) (v := .int v) (L := [l0, l1, l2] ++ some (.int x) :: r) hl' (gm_ok1 rfl hc)))
theorem gl_goto {off : Int} (tgt : Nat) (dd : decode cL_law pc = .ok (.goto off, 3)) (ht : (pc : Int) + off = (tgt : Int)) (g : GoL Ln xs tgt L st μ) : GoL Ln xs pc L st μ := by
  intro l p e s m below meth c D ad kc H locs ls X hP hS hl
  exact lv_goto X.1 X.2.1 dd ht (g l p e s m below meth c D ad kc H locs ls X hP hS hl)
theorem gl_cgt {x z : Int32} {off : Int} (tgt : Nat) (dd : decode cL_law pc = .ok (.if_icmp .gt off, 3)) (ht : (pc : Int) + off = (tgt : Int)) (kt : z < x → GoL Ln xs tgt L st μ) (kf : ¬ z < x → GoL Ln xs (pc + 3) L st μ) : GoL Ln xs pc L (.int z :: .int x :: st) μ := by
  intro l p e s m below meth c D ad kc H locs ls X hP hS hl
  exact lv_icmp_gt X.1 X.2.1 dd ht (fun q => kt q l p e s m below meth c D ad kc H locs ls X hP hS hl) (fun q => kf q l p e s m below meth c D ad kc H locs ls X hP hS hl)
theorem gl_ceq {x z : Int32} {off : Int} (tgt : Nat) (dd : decode cL_law pc = .ok (.if_icmp .eq off, 3)) (ht : (pc : Int) + off = (tgt : Int)) (h : x = z) (g : GoL Ln xs tgt L st μ) : GoL Ln xs pc L (.int z :: .int x :: st) μ := by
  intro l p e s m below meth c D ad kc H locs ls X hP hS hl
  exact lv_icmp_eq X.1 X.2.1 dd ht (fun _ => g l p e s m below meth c D ad kc H locs ls X hP hS hl) (fun q => absurd h q)
theorem gl_ifeq {x : Int32} {off : Int} (tgt : Nat) (dd : decode cL_law pc = .ok (.ifCond .eq off, 3)) (ht : (pc : Int) + off = (tgt : Int)) (h : x = 0) (g : GoL Ln xs tgt L st μ) : GoL Ln xs pc L (.int x :: st) μ := by
  intro l p e s m below meth c D ad kc H locs ls X hP hS hl
  exact lv_if_eq X.1 X.2.1 dd ht (fun _ => g l p e s m below meth c D ad kc H locs ls X hP hS hl) (fun q => absurd h q)
theorem gl_tsOut {dflt lo hi : Int} {offs : Array Int} {len : Nat} {x : Int32} (tgt : Nat) (dd : decode cL_law pc = .ok (.tableswitch dflt lo hi offs, len)) (h : x.toInt < lo ∨ hi < x.toInt) (ht : (pc : Int) + dflt = (tgt : Int)) (g : GoL Ln xs tgt L st μ) : GoL Ln xs pc L (.int x :: st) μ := by
  intro l p e s m below meth c D ad kc H locs ls X hP hS hl
  exact lv_tableOut X.1 X.2.1 dd h ht (g l p e s m below meth c D ad kc H locs ls X hP hS hl)
theorem gl_tsIn {dflt lo hi : Int} {offs : Array Int} {len : Nat} {x : Int32} {off : Int} (tgt : Nat) (dd : decode cL_law pc = .ok (.tableswitch dflt lo hi offs, len)) (h1 : ¬ x.toInt < lo) (h2 : ¬ hi < x.toInt) (ho : offs[(x.toInt - lo).toNat]? = some off) (ht : (pc : Int) + off = (tgt : Int)) (g : GoL Ln xs tgt L st μ) : GoL Ln xs pc L (.int x :: st) μ := by
  intro l p e s m below meth c D ad kc H locs ls X hP hS hl
  exact lv_tableIn X.1 X.2.1 dd h1 h2 ho ht (g l p e s m below meth c D ad kc H locs ls X hP hS hl)
theorem gl_sld {i : Int32} (hi : vp_in i Ln) (dd : decode cL_law pc = .ok (.iaload, 1)) (g : GoL Ln xs (pc + 1) L (.int (xs i.toNatClampNeg) :: st) μ) : GoL Ln xs pc L (.int i :: .ref 83 :: st) μ := by
  intro l p e s m below meth c D ad kc H locs ls X hP hS hl
  exact va_sld X.1 X.2.1 X.2.2.2.2.2.2.2.2.2.2.2.1 X.2.2.2.2.2.2.2.2.2.2.2.2.1 (Nat.not_le.mpr X.2.2.2.2.2.2.2.2.2.2.2.2.1) hS hi dd (g l p e s m below meth c D ad kc H locs ls X hP hS hl)
theorem gl_slen (dd : decode cL_law pc = .ok (.arraylength, 1)) (g : GoL Ln xs (pc + 1) L (.int (nI Ln) :: st) μ) : GoL Ln xs pc L (.ref 83 :: st) μ := by
  intro l p e s m below meth c D ad kc H locs ls X hP hS hl
  exact va_slen X.1 X.2.1 X.2.2.2.2.2.2.2.2.2.2.2.1 X.2.2.2.2.2.2.2.2.2.2.2.2.1 (Nat.not_le.mpr X.2.2.2.2.2.2.2.2.2.2.2.2.1) hS dd (g l p e s m below meth c D ad kc H locs ls X hP hS hl)
theorem gl_ret (dd : decode cL_law pc = .ok (.ireturn, 1)) : GoL Ln xs pc L [.int 1] μ := by
  intro l p e s m below meth c D ad kc H locs ls X hP hS hl
  exact va_forget (fun q hq => hS.2.2 q hq) (lw_ret X.1 X.2.1 X.2.2.1 X.2.2.2.2.2.2.1 dd)
theorem gl_room {d2 nL2 : Nat} (h : d2 ≤ 12) (hm : nL2 ≤ 21) : (gm_r d2).frames + 1 ≤ room_1.frames ∧ 8 + (nL2 + 11) + (gm_r d2).locals ≤ room_1.locals := by
  show d2 + 1 ≤ 14 ∧ 8 + (nL2 + 11) + 40 * d2 ≤ 556
  omega
theorem gl_run {p : Program} {l : Launch} {e : Env} {R : Room} {s : State} {m : MethodId} {args : Array Value} {below : List Frame} {meth : Method} {c : Code} {H : Heap} {locs : List Loc} {Q : State → Prop} {ls : Array Slot} {st0 rest : List Value} {D : va_G} {ad : Nat → Nat} {kc : Nat → ClassId} {P2 : Option Value → gm_M → Prop} {a : Array Value} {K N : Nat} {A0 : Nat → Prop} (hr : va_Run p l e R s m args below meth c H locs K N 0 0 (F0 m pc ls st0) rest (gm_q D ad kc P2 a) (gm_A ad)) (hS : va_S A0 s.heap H locs) (hA : ∀ q, gm_A ad q → A0 q)
    (kk : ∀ (r : Option Value) (μ' : gm_M) (H1 : Heap) (locs1 : List Loc), P2 r μ' → va_P D vwCl (gm_w ad kc μ') H1 → va_S A0 s.heap H1 locs1 → W p l e R s m args below meth c H1 locs1 K N Q (F0 m (pc + 3) ls ((r.map (gm_v ad)).toList ++ rest))) : W p l e R s m args below meth c H locs K N Q (F0 m pc ls st0) := by
  intro T hT X
  obtain ⟨v, st₀, t, T', L, h0, X', hL, e1, e2, ⟨⟨r, μ', hv, hp, hb, hk2⟩, hz, hk⟩, st⟩ := hr T hT X
  have hv : v = r.map (gm_v ad) := by injection hv
  subst hv
  rw [h0] at hz hk
  obtain ⟨t2, a1, b1⟩ := kk r μ' T'.heap (locs ++ L) hp (by rw [e1]; exact hb)
    ⟨Nat.le_trans hS.1 (by rw [e1]; exact hz), fun q h1 h2 => by rw [e1, hk q (Nat.lt_of_lt_of_le h1 hS.1) (fun z => h2 (hA q z))]; exact hS.2.1 q h1 h2, fun q hq => by
      rcases List.mem_append.mp hq with h | h
      · exact hS.2.2 q h
      · exact hA _ (hL q h)⟩ T' rfl X'
  exact ⟨t2, st t2 a1, b1⟩
theorem gl_at_U {p : Program} {s : State} {m : MethodId} {meth : Method} {c : Code} {D : va_G} {ad : Nat → Nat} {kc : Nat → ClassId} {H : Heap} {locs : List Loc} (X : lw_X Ln xs p s m meth c D ad kc) (hP : va_P D vwCl (gm_w ad kc μ) H) (hS : va_S (fun q => s.heap.size ≤ q) s.heap H locs) {U : State} (hU : U.heap = H) (hW : s.WarmedH U.vm) : gm_B D ad kc μ U :=
  ⟨by rw [hU]; exact hP, va_K.moved hW.alike X.2.2.2.2.2.2.2.1, X.2.2.2.2.2.2.2.2.1, X.2.2.2.2.2.2.2.2.2.1.moved hW.alike (fun a h1 _ => by rw [hU]; exact hS.2.1 a h1 (Nat.not_le.mpr h1)), X.2.2.2.2.2.2.2.2.2.2.1.warm hW⟩
theorem gl_V {As rest : List Value} {y2 : MethodName} {cc2 : ByteArray} {nL2 idx n d2 : Nat} {ci c0 : Nat} {ks : List Nat} {ret2 : Option FieldType} {P2 : Option Value → gm_M → Prop} (hc : gm_cm y2 cc2 nL2 ret2 n) (hv : gm_cv y2 ci) (hk : Cond.methodLink RL idx y2 ∈ lw_tbl) (hs : gm_sh c0 = some (.inr (ci, ks))) (dd : decode cL_law pc = .ok (.invokevirtual idx, 3)) (hn : As.length = n) (hd : Nat.ble d2 12 = true) (hr : Nat.ble ((rest.map fun v => v.category).sum) 8 = true) (hS2 : Sat y2 cc2 nL2 ret2 d2 (.ref c0 :: As) μ P2) (g : ∀ r μ', P2 r μ' → GoL Ln xs (pc + 3) L (r.toList ++ rest) μ') : GoL Ln xs pc L (As.reverse ++ .ref c0 :: rest) μ := by
  intro l p e s m below meth c D ad kc H locs ls X hP hS hl
  obtain ⟨T9, N9, hcl⟩ := hv.2.2
  refine gl_run (va_runV (As := As.map (gm_v ad)) (rest := rest.map (gm_v ad)) ⟨X.1, X.2.1, X.2.2.2.1, X.2.2.2.2.1, X.2.2.2.2.2.1⟩ (hS2 l D ad kc) (⟨callB_of n X.2.2.2.2.2.1 (gm_goodIn hc.2.1) rfl rfl rfl (gm_hw X.2.2.2.2.2.1 hc.1 rfl) (gm_hw X.2.2.2.2.2.1 hk rfl) hc.2.2.1 (gl_room (Nat.le_of_ble_eq_true hd) hc.2.2.2), gm_hw X.2.2.2.2.2.1 hv.1 rfl, gm_hw X.2.2.2.2.2.1 hv.2.1 rfl⟩) ⟨gm_blind, va_recv X.2.2.2.2.2.2.2.1 hP hcl (gm_at_obj hs), fun U hU hW => ⟨rfl, gl_at_U X hP hS hU hW⟩⟩ rfl (by rw [List.length_map]; exact hn) hl.1 (by show List.map (gm_v ad) (As.reverse ++ .ref c0 :: rest) = (As.map (gm_v ad)).reverse ++ .ref (ad c0) :: rest.map (gm_v ad); rw [List.map_append, List.map_reverse]; rfl) (gm_lroom ad hr) dd ⟨Nat.le_refl _, Nat.le_refl _⟩) hS (fun q ⟨k, h1, h2⟩ => h2 ▸ X.2.2.2.2.2.2.2.2.2.2.2.2.2 k h1) (fun r μ' H1 locs1 h2 hP1 hS1 => ?_)
  rw [gm_back]
  exact g r μ' h2 l p e s m below meth c D ad kc H1 locs1 ls X hP1 hS1 hl
end glRows
def lwL (i : Nat) : List (Option Value) := [some (.ref 83), some (.ref 0), some (.ref 52), some (.int (nI i))]
theorem gl_a1 {Ln : Nat} {xs : Nat → Int32} {pc i : Nat} {st : List Value} {μ : gm_M} (dd : decode cL_law pc = .ok (.aload_n 1, 1)) (g : GoL Ln xs (pc + 1) (lwL i) (.ref 0 :: st) μ) : GoL Ln xs pc (lwL i) st μ := gl_al1 dd g
theorem gl_a2 {Ln : Nat} {xs : Nat → Int32} {pc i : Nat} {st : List Value} {μ : gm_M} (dd : decode cL_law pc = .ok (.aload_n 2, 1)) (g : GoL Ln xs (pc + 1) (lwL i) (.ref 52 :: st) μ) : GoL Ln xs pc (lwL i) st μ := gl_al2 dd g
theorem gl_arg1 {Ln : Nat} {xs : Nat → Int32} {pc i : Nat} {st : List Value} {μ : gm_M} (hi : i + 6 ≤ Ln) (hL : Ln ≤ 3072) (d0 : decode cL_law pc = .ok (.aload_n 0, 1)) (d1 : decode cL_law (pc + 1) = .ok (.iload_n 3, 1)) (d2 : decode cL_law (pc + 2) = .ok (.iconst 1, 1)) (d3 : decode cL_law (pc + 3) = .ok (.iadd, 1)) (d4 : decode cL_law (pc + 4) = .ok (.iaload, 1)) (g : GoL Ln xs (pc + 5) (lwL i) (.int (xs (i + 1)) :: st) μ) : GoL Ln xs pc (lwL i) st μ := by
  refine gl_al0 d0 (gl_il3 d1 (gl_ic1 d2 (gl_iadd d3 ?_)))
  have e : nI i + 1 = nI (i + 1) := nI_add i 1
  rw [e]
  refine gl_sld (vp_in_nI (by omega) (by omega)) d4 ?_
  rw [nI_clamp (by omega)]
  exact g
theorem gl_arg2 {Ln : Nat} {xs : Nat → Int32} {pc i : Nat} {st : List Value} {μ : gm_M} (hi : i + 6 ≤ Ln) (hL : Ln ≤ 3072) (d0 : decode cL_law pc = .ok (.aload_n 0, 1)) (d1 : decode cL_law (pc + 1) = .ok (.iload_n 3, 1)) (d2 : decode cL_law (pc + 2) = .ok (.iconst 2, 1)) (d3 : decode cL_law (pc + 3) = .ok (.iadd, 1)) (d4 : decode cL_law (pc + 4) = .ok (.iaload, 1)) (g : GoL Ln xs (pc + 5) (lwL i) (.int (xs (i + 2)) :: st) μ) : GoL Ln xs pc (lwL i) st μ := by
  refine gl_al0 d0 (gl_il3 d1 (gl_ic2 d2 (gl_iadd d3 ?_)))
  have e : nI i + 2 = nI (i + 2) := nI_add i 2
  rw [e]
  refine gl_sld (vp_in_nI (by omega) (by omega)) d4 ?_
  rw [nI_clamp (by omega)]
  exact g
theorem gl_arg3 {Ln : Nat} {xs : Nat → Int32} {pc i : Nat} {st : List Value} {μ : gm_M} (hi : i + 6 ≤ Ln) (hL : Ln ≤ 3072) (d0 : decode cL_law pc = .ok (.aload_n 0, 1)) (d1 : decode cL_law (pc + 1) = .ok (.iload_n 3, 1)) (d2 : decode cL_law (pc + 2) = .ok (.iconst 3, 1)) (d3 : decode cL_law (pc + 3) = .ok (.iadd, 1)) (d4 : decode cL_law (pc + 4) = .ok (.iaload, 1)) (g : GoL Ln xs (pc + 5) (lwL i) (.int (xs (i + 3)) :: st) μ) : GoL Ln xs pc (lwL i) st μ := by
  refine gl_al0 d0 (gl_il3 d1 (gl_ic3 d2 (gl_iadd d3 ?_)))
  have e : nI i + 3 = nI (i + 3) := nI_add i 3
  rw [e]
  refine gl_sld (vp_in_nI (by omega) (by omega)) d4 ?_
  rw [nI_clamp (by omega)]
  exact g
theorem gl_arg4 {Ln : Nat} {xs : Nat → Int32} {pc i : Nat} {st : List Value} {μ : gm_M} (hi : i + 6 ≤ Ln) (hL : Ln ≤ 3072) (d0 : decode cL_law pc = .ok (.aload_n 0, 1)) (d1 : decode cL_law (pc + 1) = .ok (.iload_n 3, 1)) (d2 : decode cL_law (pc + 2) = .ok (.iconst 4, 1)) (d3 : decode cL_law (pc + 3) = .ok (.iadd, 1)) (d4 : decode cL_law (pc + 4) = .ok (.iaload, 1)) (g : GoL Ln xs (pc + 5) (lwL i) (.int (xs (i + 4)) :: st) μ) : GoL Ln xs pc (lwL i) st μ := by
  refine gl_al0 d0 (gl_il3 d1 (gl_ic4 d2 (gl_iadd d3 ?_)))
  have e : nI i + 4 = nI (i + 4) := nI_add i 4
  rw [e]
  refine gl_sld (vp_in_nI (by omega) (by omega)) d4 ?_
  rw [nI_clamp (by omega)]
  exact g
theorem gl_arg5 {Ln : Nat} {xs : Nat → Int32} {pc i : Nat} {st : List Value} {μ : gm_M} (hi : i + 6 ≤ Ln) (hL : Ln ≤ 3072) (d0 : decode cL_law pc = .ok (.aload_n 0, 1)) (d1 : decode cL_law (pc + 1) = .ok (.iload_n 3, 1)) (d2 : decode cL_law (pc + 2) = .ok (.iconst 5, 1)) (d3 : decode cL_law (pc + 3) = .ok (.iadd, 1)) (d4 : decode cL_law (pc + 4) = .ok (.iaload, 1)) (g : GoL Ln xs (pc + 5) (lwL i) (.int (xs (i + 5)) :: st) μ) : GoL Ln xs pc (lwL i) st μ := by
  refine gl_al0 d0 (gl_il3 d1 (gl_ic5 d2 (gl_iadd d3 ?_)))
  have e : nI i + 5 = nI (i + 5) := nI_add i 5
  rw [e]
  refine gl_sld (vp_in_nI (by omega) (by omega)) d4 ?_
  rw [nI_clamp (by omega)]
  exact g
