/-! THE MEMORY AS TWO FUNCTIONS: ints and longs by cell and place. Every cell that is made has a fixed shape; references never change. -/
abbrev gm_M : Type := (Nat → Nat → Int32) × (Nat → Nat → Int64)
def gm_I (μ : gm_M) (c k : Nat) (v : Int32) : gm_M := (fun a => if a = c then upd (μ.1 c) k v else μ.1 a, μ.2)
def gm_J (μ : gm_M) (c k : Nat) (v : Int64) : gm_M := (μ.1, fun a => if a = c then vp_updL (μ.2 c) k v else μ.2 a)
def gm_aI (μ : gm_M) (c : Nat) (f : Nat → Int32) : gm_M := (fun a => if a = c then f else μ.1 a, μ.2)
def gm_aJ (μ : gm_M) (c : Nat) (f : Nat → Int64) : gm_M := (μ.1, fun a => if a = c then f else μ.2 a)
def gm_shL : List ((Nat × Nat) ⊕ (Nat × List Nat)) := [
.inr (11, [3, 34, 36, 40, 42, 45, 0]),
  .inr (1, [4, 6, 8, 13, 15, 19, 23, 27, 0, 0]),
  .inr (8, [5, 0]),
  .inl (0, 71),
  .inr (8, [7, 0]),
  .inl (0, 30),
  .inr (10, [9, 10, 11, 12, 0, 0, 0]),
  .inl (0, 8),
  .inl (0, 8),
  .inl (0, 8),
  .inl (0, 40),
  .inr (0, [14, 0, 0]),
  .inl (0, 30),
  .inr (4, [16, 17, 18, 0]),
  .inl (0, 8),
  .inl (0, 8),
  .inl (0, 8),
  .inr (4, [20, 21, 22, 0]),
  .inl (0, 4),
  .inl (0, 4),
  .inl (0, 4),
  .inr (4, [24, 25, 26, 0]),
  .inl (0, 8),
  .inl (0, 8),
  .inl (0, 8),
  .inr (9, [28, 29, 30, 31, 32, 33, 0, 0, 0, 0, 0, 0, 0, 0, 0]),
  .inl (0, 5),
  .inl (0, 30),
  .inl (0, 30),
  .inl (0, 30),
  .inl (0, 30),
  .inl (0, 30),
  .inr (7, [3, 35, 0, 0, 0, 0]),
  .inl (0, 240),
  .inr (5, [3, 37, 38, 39, 0, 0, 0, 0, 0, 0, 0]),
  .inl (0, 240),
  .inl (0, 256),
  .inl (0, 256),
  .inr (3, [3, 41]),
  .inl (0, 270),
  .inr (2, [3, 43, 44, 1, 1, 0, 0]),
  .inl (1, 100),
  .inl (1, 100),
  .inl (3, 4),
  .inr (6, [50, 0, 0, 0]),
  .inr (6, [51, 0, 0, 0]),
  .inr (6, [52, 0, 0, 0]),
  .inr (6, [53, 0, 0, 0]),
  .inl (0, 60),
  .inl (0, 60),
  .inl (0, 60),
  .inl (0, 60),
  .inr (12, [55, 56, 0, 57, 58, 59, 60, 0, 61, 0, 0, 0, 62, 63, 0, 64, 65, 66, 0, 0, 67, 68, 69, 70, 71, 72, 73, 0, 74, 75, 76, 77, 78, 79, 80, 81, 82, 0]),
  .inl (0, 2),
  .inl (0, 142),
  .inl (0, 9),
  .inl (0, 9),
  .inl (0, 9),
  .inl (0, 45),
  .inl (0, 30),
  .inl (0, 8),
  .inl (0, 8),
  .inl (0, 4),
  .inl (0, 4),
  .inl (0, 30),
  .inl (0, 30),
  .inl (0, 30),
  .inl (0, 30),
  .inl (0, 30),
  .inl (0, 2),
  .inl (0, 240),
  .inl (0, 256),
  .inl (0, 8),
  .inl (0, 8),
  .inl (0, 8),
  .inl (0, 600),
  .inl (2, 4),
  .inl (0, 4),
  .inl (0, 4),
  .inl (0, 240),
  .inl (0, 60)]
def gm_sh (c : Nat) : Option ((Nat × Nat) ⊕ (Nat × List Nat)) := gm_shL[c]?
theorem gm_sh_lt {c : Nat} {x : (Nat × Nat) ⊕ (Nat × List Nat)} (h : gm_sh c = some x) : c < 81 := (List.getElem?_eq_some_iff.mp h).1
def gm_f (ad : Nat → Nat) (μ : gm_M) (c j k : Nat) : Value := match k with
  | 0 => .int (μ.1 c j)
  | 1 => .long (μ.2 c j)
  | k + 2 => .ref (ad k)
def gm_e (ad : Nat → Nat) (kc : Nat → ClassId) (μ : gm_M) (c : Nat) : va_E := match gm_sh c with
  | some (.inl (0, n)) => .inl (kc 0, n, .inl (μ.1 c))
  | some (.inl (1, n)) => .inl (kc 1, n, .inr (.inl (μ.2 c)))
  | some (.inl (2, n)) => .inl (kc 2, n, .inl (μ.1 c))
  | some (.inl (_, n)) => .inl (kc 3, n, .inr (.inr (.inr (.inr (fun j => some (ad (44 + j)))))))
  | some (.inr (ci, ks)) => .inr (ci, ks.mapIdx (gm_f ad μ c))
  | none => .inr (0, [])
def gm_w (ad : Nat → Nat) (kc : Nat → ClassId) (μ : gm_M) : va_W := (List.range 81).map (fun c => (ad c, gm_e ad kc μ c))
def gm_tl (kc : Nat → ClassId) : List (ClassId × FieldType) := [(kc 0, .int), (kc 1, .long), (kc 2, .boolean), (kc 3, .object "CheeseEar$Sheet")]
def gm_A (ad : Nat → Nat) : Nat → Prop := fun q => ∃ c, c < 81 ∧ q = ad c
def gm_inj (ad : Nat → Nat) : Prop := ∀ i j, i < 81 → j < 81 → ad i = ad j → i = j
theorem gm_w_get (ad : Nat → Nat) (kc : Nat → ClassId) (μ : gm_M) {c : Nat} (h : c < 81) : (gm_w ad kc μ)[c]? = some (ad c, gm_e ad kc μ c) := by
  unfold gm_w
  rw [List.getElem?_map, List.getElem?_range h]
  rfl
theorem gm_w_inv {ad : Nat → Nat} {kc : Nat → ClassId} {μ : gm_M} {k : Nat} {q : Nat × va_E} (h : (gm_w ad kc μ)[k]? = some q) : k < 81 ∧ q = (ad k, gm_e ad kc μ k) := by
  have hk : k < 81 := by
    have := (List.getElem?_eq_some_iff.mp h).1
    simpa [gm_w] using this
  rw [gm_w_get ad kc μ hk] at h
  exact ⟨hk, (Option.some.inj h).symm⟩
theorem gm_D {ad : Nat → Nat} (hi : gm_inj ad) (kc : Nat → ClassId) (μ : gm_M) : va_D (gm_A ad) (gm_w ad kc μ) := by
  refine ⟨fun i j p q hp hq h => ?_, fun k q h => ?_⟩
  · obtain ⟨h1, rfl⟩ := gm_w_inv hp
    obtain ⟨h2, rfl⟩ := gm_w_inv hq
    exact hi i j h1 h2 h
  · obtain ⟨h1, rfl⟩ := gm_w_inv h
    exact ⟨k, h1, rfl⟩
/-- one cell of the world set anew -/
theorem gm_w_set {ad : Nat → Nat} {kc : Nat → ClassId} {μ μ' : gm_M} {c : Nat} {e : va_E} (hc : c < 81) (h : gm_e ad kc μ' c = e) (ho : ∀ a, a ≠ c → gm_e ad kc μ' a = gm_e ad kc μ a) : (gm_w ad kc μ).set c (ad c, e) = gm_w ad kc μ' := by
  apply List.ext_getElem?
  intro k
  by_cases hk : k < 81
  · rw [gm_w_get ad kc μ' hk, List.getElem?_set]
    by_cases e1 : c = k
    · subst e1
      have hl : c < (gm_w ad kc μ).length := by simpa [gm_w] using hc
      simp [hl, h]
    · rw [if_neg e1, gm_w_get ad kc μ hk, ho k (fun q => e1 q.symm)]
  · have l1 : (gm_w ad kc μ').length = 81 := by simp [gm_w]
    have l2 : (gm_w ad kc μ).length = 81 := by simp [gm_w]
    rw [List.getElem?_eq_none (by rw [List.length_set, l2]; omega), List.getElem?_eq_none (by rw [l1]; omega)]
theorem gm_e_cong {ad : Nat → Nat} {kc : Nat → ClassId} {μ μ' : gm_M} {a : Nat} (h1 : μ'.1 a = μ.1 a) (h2 : μ'.2 a = μ.2 a) : gm_e ad kc μ' a = gm_e ad kc μ a := by
  have hf : gm_f ad μ' a = gm_f ad μ a := by
    funext j k
    match k with
    | 0 => show Value.int (μ'.1 a j) = Value.int (μ.1 a j); rw [h1]
    | 1 => show Value.long (μ'.2 a j) = Value.long (μ.2 a j); rw [h2]
    | k + 2 => rfl
  unfold gm_e
  rw [h1, h2, hf]
theorem gm_e_obj {ad : Nat → Nat} {kc : Nat → ClassId} {μ : gm_M} {c ci : Nat} {ks : List Nat} (hs : gm_sh c = some (.inr (ci, ks))) : gm_e ad kc μ c = .inr (ci, ks.mapIdx (gm_f ad μ c)) := by
  unfold gm_e; simp only [hs]
theorem gm_e_ai {ad : Nat → Nat} {kc : Nat → ClassId} {μ : gm_M} {c n : Nat} (hs : gm_sh c = some (.inl (0, n))) : gm_e ad kc μ c = .inl (kc 0, n, .inl (μ.1 c)) := by
  unfold gm_e; simp only [hs]
theorem gm_e_aj {ad : Nat → Nat} {kc : Nat → ClassId} {μ : gm_M} {c n : Nat} (hs : gm_sh c = some (.inl (1, n))) : gm_e ad kc μ c = .inl (kc 1, n, .inr (.inl (μ.2 c))) := by
  unfold gm_e; simp only [hs]
theorem gm_e_az {ad : Nat → Nat} {kc : Nat → ClassId} {μ : gm_M} {c n : Nat} (hs : gm_sh c = some (.inl (2, n))) : gm_e ad kc μ c = .inl (kc 2, n, .inl (μ.1 c)) := by
  unfold gm_e; simp only [hs]
theorem gm_e_ar {ad : Nat → Nat} {kc : Nat → ClassId} {μ : gm_M} {c n : Nat} (hs : gm_sh c = some (.inl (3, n))) : gm_e ad kc μ c = .inl (kc 3, n, .inr (.inr (.inr (.inr (fun j => some (ad (44 + j))))))) := by
  unfold gm_e; simp only [hs]
theorem gm_fs_I {ad : Nat → Nat} {μ : gm_M} {c k : Nat} {ks : List Nat} {x : Int32} (hk : ks[k]? = some 0) : (ks.mapIdx (gm_f ad μ c)).set k (.int x) = ks.mapIdx (gm_f ad (gm_I μ c k x) c) := by
  apply List.ext_getElem?
  intro i
  rw [List.getElem?_set, List.getElem?_mapIdx, List.getElem?_mapIdx]
  have hl : k < ks.length := (List.getElem?_eq_some_iff.mp hk).1
  by_cases e1 : k = i
  · subst e1
    rw [if_pos rfl, if_pos (by rw [List.length_mapIdx]; exact hl), hk]
    simp [gm_f, gm_I, upd]
  · rw [if_neg e1]
    cases h : ks[i]? with
    | none => rfl
    | some z =>
      match z with
      | 0 => simp [gm_f, gm_I, upd]; intro q; exact absurd q.symm e1
      | 1 => rfl
      | z + 2 => rfl
theorem gm_fs_J {ad : Nat → Nat} {μ : gm_M} {c k : Nat} {ks : List Nat} {x : Int64} (hk : ks[k]? = some 1) : (ks.mapIdx (gm_f ad μ c)).set k (.long x) = ks.mapIdx (gm_f ad (gm_J μ c k x) c) := by
  apply List.ext_getElem?
  intro i
  rw [List.getElem?_set, List.getElem?_mapIdx, List.getElem?_mapIdx]
  have hl : k < ks.length := (List.getElem?_eq_some_iff.mp hk).1
  by_cases e1 : k = i
  · subst e1
    rw [if_pos rfl, if_pos (by rw [List.length_mapIdx]; exact hl), hk]
    simp [gm_f, gm_J, vp_updL]
  · rw [if_neg e1]
    cases h : ks[i]? with
    | none => rfl
    | some z =>
      match z with
      | 0 => rfl
      | 1 => simp [gm_f, gm_J, vp_updL]; intro q; exact absurd q.symm e1
      | z + 2 => rfl
theorem gm_w_I {ad : Nat → Nat} {kc : Nat → ClassId} {μ : gm_M} {c ci k : Nat} {ks : List Nat} {x : Int32} (hs : gm_sh c = some (.inr (ci, ks))) (hk : ks[k]? = some 0) : (gm_w ad kc μ).set c (ad c, .inr (ci, (ks.mapIdx (gm_f ad μ c)).set k (.int x))) = gm_w ad kc (gm_I μ c k x) :=
  gm_w_set (gm_sh_lt hs) (by rw [gm_e_obj hs, gm_fs_I hk]) (fun a h => gm_e_cong (by simp [gm_I, h]) rfl)
theorem gm_w_J {ad : Nat → Nat} {kc : Nat → ClassId} {μ : gm_M} {c ci k : Nat} {ks : List Nat} {x : Int64} (hs : gm_sh c = some (.inr (ci, ks))) (hk : ks[k]? = some 1) : (gm_w ad kc μ).set c (ad c, .inr (ci, (ks.mapIdx (gm_f ad μ c)).set k (.long x))) = gm_w ad kc (gm_J μ c k x) :=
  gm_w_set (gm_sh_lt hs) (by rw [gm_e_obj hs, gm_fs_J hk]) (fun a h => gm_e_cong rfl (by simp [gm_J, h]))
theorem gm_w_aI {ad : Nat → Nat} {kc : Nat → ClassId} {μ : gm_M} {c n : Nat} {f : Nat → Int32} (hs : gm_sh c = some (.inl (0, n))) : (gm_w ad kc μ).set c (ad c, .inl (kc 0, n, .inl f)) = gm_w ad kc (gm_aI μ c f) :=
  gm_w_set (gm_sh_lt hs) (by rw [gm_e_ai hs]; simp [gm_aI]) (fun a h => gm_e_cong (by simp [gm_aI, h]) rfl)
theorem gm_w_aZ {ad : Nat → Nat} {kc : Nat → ClassId} {μ : gm_M} {c n : Nat} {f : Nat → Int32} (hs : gm_sh c = some (.inl (2, n))) : (gm_w ad kc μ).set c (ad c, .inl (kc 2, n, .inl f)) = gm_w ad kc (gm_aI μ c f) :=
  gm_w_set (gm_sh_lt hs) (by rw [gm_e_az hs]; simp [gm_aI]) (fun a h => gm_e_cong (by simp [gm_aI, h]) rfl)
theorem gm_w_aJ {ad : Nat → Nat} {kc : Nat → ClassId} {μ : gm_M} {c n : Nat} {f : Nat → Int64} (hs : gm_sh c = some (.inl (1, n))) : (gm_w ad kc μ).set c (ad c, .inl (kc 1, n, .inr (.inl f))) = gm_w ad kc (gm_aJ μ c f) :=
  gm_w_set (gm_sh_lt hs) (by rw [gm_e_aj hs]; simp [gm_aJ]) (fun a h => gm_e_cong rfl (by simp [gm_aJ, h]))
theorem gm_I_eq (μ : gm_M) (c k : Nat) (v : Int32) : gm_aI μ c (upd (μ.1 c) k v) = gm_I μ c k v := rfl
theorem gm_J_eq (μ : gm_M) (c k : Nat) (v : Int64) : gm_aJ μ c (vp_updL (μ.2 c) k v) = gm_J μ c k v := rfl
/-! reads of a changed memory -/
theorem gm_I1 (μ : gm_M) (c k : Nat) (v : Int32) (a j : Nat) : (gm_I μ c k v).1 a j = if a = c then (if j = k then v else μ.1 c j) else μ.1 a j := by
  unfold gm_I upd; dsimp only; split <;> rfl
theorem gm_I2 (μ : gm_M) (c k : Nat) (v : Int32) : (gm_I μ c k v).2 = μ.2 := rfl
theorem gm_J1 (μ : gm_M) (c k : Nat) (v : Int64) : (gm_J μ c k v).1 = μ.1 := rfl
theorem gm_J2 (μ : gm_M) (c k : Nat) (v : Int64) (a j : Nat) : (gm_J μ c k v).2 a j = if a = c then (if j = k then v else μ.2 c j) else μ.2 a j := by
  unfold gm_J vp_updL; dsimp only; split <;> rfl
/-! values and locals -/
def gm_v (ad : Nat → Nat) (v : Value) : Value := match v with
  | .ref c => .ref (ad c)
  | w => w
theorem gm_v_cat (ad : Nat → Nat) (v : Value) : (gm_v ad v).category = v.category := by cases v <;> rfl
def gm_lr (ad : Nat → Nat) : Nat → List (Option Value) → List (Nat × Value)
  | _, [] => []
  | i, none :: L => gm_lr ad (i + 1) L
  | i, some v :: L => (i, gm_v ad v) :: gm_lr ad (i + 1) L
abbrev gm_l (ad : Nat → Nat) (L : List (Option Value)) : List (Nat × Value) := gm_lr ad 0 L
theorem gm_lr_iff {ad : Nat → Nat} (L : List (Option Value)) : ∀ (i : Nat) (q : Nat × Value), q ∈ gm_lr ad i L ↔ ∃ (k : Nat) (v : Value), L[k]? = some (some v) ∧ q = (i + k, gm_v ad v) := by
  induction L with
  | nil => intro i q; simp [gm_lr]
  | cons a L ih =>
    intro i q
    have key : (∃ (k : Nat) (v : Value), L[k]? = some (some v) ∧ q = (i + 1 + k, gm_v ad v)) ↔ ∃ (k : Nat) (v : Value), (a :: L)[k + 1]? = some (some v) ∧ q = (i + (k + 1), gm_v ad v) := by
      constructor
      · rintro ⟨k, v, h1, h2⟩
        exact ⟨k, v, by simpa using h1, by rw [h2]; congr 1; omega⟩
      · rintro ⟨k, v, h1, h2⟩
        exact ⟨k, v, by simpa using h1, by rw [h2]; congr 1; omega⟩
    cases a with
    | none =>
      rw [gm_lr, ih, key]
      constructor
      · rintro ⟨k, v, h⟩; exact ⟨k + 1, v, h⟩
      · rintro ⟨k, v, h1, h2⟩
        cases k with
        | zero => simp at h1
        | succ k => exact ⟨k, v, h1, h2⟩
    | some b =>
      rw [gm_lr, List.mem_cons, ih, key]
      constructor
      · rintro (h | ⟨k, v, h⟩)
        · exact ⟨0, b, rfl, h⟩
        · exact ⟨k + 1, v, h⟩
      · rintro ⟨k, v, h1, h2⟩
        cases k with
        | zero =>
          have hv : b = v := by simpa using h1
          subst hv
          exact Or.inl h2
        | succ k => exact Or.inr ⟨k, v, h1, h2⟩
theorem gm_l_mem {ad : Nat → Nat} {L : List (Option Value)} {i : Nat} {v : Value} (h : L[i]? = some (some v)) : (i, gm_v ad v) ∈ gm_l ad L := (gm_lr_iff L 0 _).mpr ⟨i, v, h, by rw [Nat.zero_add]⟩
theorem gm_has_at {ls : Array Slot} {nL : Nat} {ad : Nat → Nat} {L : List (Option Value)} (h : lv_has ls nL (gm_l ad L)) {i : Nat} {v : Value} (hi : L[i]? = some (some v)) : ls[i]? = some (.val (gm_v ad v)) := h.2.2 _ (gm_l_mem hi)
theorem gm_has1 {ls : Array Slot} {nL : Nat} {ad : Nat → Nat} {L L' : List (Option Value)} {i : Nat} {v : Value} (h : lv_has ls nL ((i, gm_v ad v) :: (gm_l ad L).filter (fun q => !(q.1 == i) && !(q.1 + 1 == i && q.2.category == 2))))
    (ok : ∀ (j : Nat) (w : Value), L'[j]? = some (some w) → (j = i ∧ w = v) ∨ (j ≠ i ∧ L[j]? = some (some w) ∧ (j + 1 = i → w.category = 1))) : lv_has ls nL (gm_l ad L') := by
  refine ⟨h.1, h.2.1, fun q hq => ?_⟩
  obtain ⟨k, w, h1, h2⟩ := (gm_lr_iff L' 0 q).mp hq
  rw [Nat.zero_add] at h2
  subst h2
  rcases ok k w h1 with ⟨e1, e2⟩ | ⟨e1, e2, e3⟩
  · subst e1; subst e2
    exact h.2.2 _ List.mem_cons_self
  · refine h.2.2 _ (List.mem_cons_of_mem _ (List.mem_filter.mpr ⟨gm_l_mem e2, ?_⟩))
    have h4 : (k == i) = false := by simpa using e1
    by_cases h5 : k + 1 = i
    · have := e3 h5
      simp [h4, gm_v_cat, this]
    · simp [h4, h5]
theorem gm_has2 {ls : Array Slot} {nL : Nat} {ad : Nat → Nat} {L L' : List (Option Value)} {i : Nat} {v : Value} (h : lv_has ls nL ((i, gm_v ad v) :: (gm_l ad L).filter (fun q => !(q.1 == i) && (!(q.1 == i + 1) && !(q.1 + 1 == i && q.2.category == 2)))))
    (ok : ∀ (j : Nat) (w : Value), L'[j]? = some (some w) → (j = i ∧ w = v) ∨ (j ≠ i ∧ j ≠ i + 1 ∧ L[j]? = some (some w) ∧ (j + 1 = i → w.category = 1))) : lv_has ls nL (gm_l ad L') := by
  refine ⟨h.1, h.2.1, fun q hq => ?_⟩
  obtain ⟨k, w, h1, h2⟩ := (gm_lr_iff L' 0 q).mp hq
  rw [Nat.zero_add] at h2
  subst h2
  rcases ok k w h1 with ⟨e1, e2⟩ | ⟨e1, e0, e2, e3⟩
  · subst e1; subst e2
    exact h.2.2 _ List.mem_cons_self
  · refine h.2.2 _ (List.mem_cons_of_mem _ (List.mem_filter.mpr ⟨gm_l_mem e2, ?_⟩))
    have h4 : (k == i) = false := by simpa using e1
    have h6 : (k == i + 1) = false := by simpa using e0
    by_cases h5 : k + 1 = i
    · have := e3 h5
      simp [h4, h6, gm_v_cat, this]
    · simp [h4, h6, h5]
/-- the last of a list of locals isn't long -/
def gm_lc (pre : List (Option Value)) : Bool := match pre.getLast? with
  | some (some v) => v.category == 1
  | _ => true
theorem gm_lc_at {pre : List (Option Value)} (h : gm_lc pre = true) {j : Nat} {w : Value} (hj : pre[j]? = some (some w)) (hl : j + 1 = pre.length) : w.category = 1 := by
  have hg : pre.getLast? = some (some w) := by
    rw [List.getLast?_eq_getElem?, ← hl]
    exact hj
  unfold gm_lc at h
  rw [hg] at h
  simpa using h
theorem gm_ok1 {pre post : List (Option Value)} {x : Option Value} {v : Value} {i : Nat} (hi : pre.length = i) (hc : gm_lc pre = true) (j : Nat) (w : Value) (h : (pre ++ some v :: post)[j]? = some (some w)) : (j = i ∧ w = v) ∨ (j ≠ i ∧ (pre ++ x :: post)[j]? = some (some w) ∧ (j + 1 = i → w.category = 1)) := by
  subst hi
  by_cases h1 : j < pre.length
  · rw [List.getElem?_append_left h1] at h
    refine Or.inr ⟨by omega, by rw [List.getElem?_append_left h1]; exact h, fun e => gm_lc_at hc h e⟩
  · rw [List.getElem?_append_right (by omega)] at h
    by_cases h2 : j = pre.length
    · subst h2
      simp at h
      exact Or.inl ⟨rfl, h.symm⟩
    · refine Or.inr ⟨h2, ?_, fun e => by omega⟩
      rw [List.getElem?_append_right (by omega)]
      obtain ⟨k, hk⟩ : ∃ k, j - pre.length = k + 1 := ⟨j - pre.length - 1, by omega⟩
      rw [hk] at h ⊢
      simpa using h
theorem gm_ok1n {pre post : List (Option Value)} {z x : Option Value} {v : Value} {i : Nat} (hi : pre.length + 1 = i) (j : Nat) (w : Value) (h : (pre ++ none :: some v :: post)[j]? = some (some w)) : (j = i ∧ w = v) ∨ (j ≠ i ∧ (pre ++ z :: x :: post)[j]? = some (some w) ∧ (j + 1 = i → w.category = 1)) := by
  have h0 := gm_ok1 (pre := pre ++ [none]) (post := post) (x := x) (v := v) (i := i) (by simpa using hi) (by simp [gm_lc]) j w (by simpa using h)
  rcases h0 with h0 | ⟨h1, h2, h3⟩
  · exact Or.inl h0
  · refine Or.inr ⟨h1, ?_, h3⟩
    have h2 : (pre ++ none :: x :: post)[j]? = some (some w) := by simpa using h2
    by_cases hj : j < pre.length
    · rw [List.getElem?_append_left hj] at h2 ⊢; exact h2
    · rw [List.getElem?_append_right (by omega)] at h2 ⊢
      cases hk : j - pre.length with
      | zero => rw [hk] at h2; simp at h2
      | succ k => rw [hk] at h2; simpa using h2
theorem gm_ok2 {pre post : List (Option Value)} {x x2 : Option Value} {v : Value} {i : Nat} (hi : pre.length = i) (hc : gm_lc pre = true) (j : Nat) (w : Value) (h : (pre ++ some v :: none :: post)[j]? = some (some w)) : (j = i ∧ w = v) ∨ (j ≠ i ∧ j ≠ i + 1 ∧ (pre ++ x :: x2 :: post)[j]? = some (some w) ∧ (j + 1 = i → w.category = 1)) := by
  rcases gm_ok1 (pre := pre) (post := none :: post) (x := x) (v := v) hi hc j w h with h0 | ⟨h1, h2, h3⟩
  · exact Or.inl h0
  · subst hi
    have hne : j ≠ pre.length + 1 := by
      intro e
      subst e
      rw [List.getElem?_append_right (by omega)] at h2
      simp at h2
    refine Or.inr ⟨h1, hne, ?_, h3⟩
    by_cases hj : j < pre.length
    · rw [List.getElem?_append_left hj] at h2 ⊢; exact h2
    · rw [List.getElem?_append_right (by omega)] at h2 ⊢
      obtain ⟨k, hk⟩ : ∃ k, j - pre.length = k + 2 := ⟨j - pre.length - 2, by omega⟩
      rw [hk] at h2 ⊢
      simpa using h2
/-! what the class's own statics are: two rows of four nights -/
def gm_W1 (j : Nat) : Int32 := if j = 0 then 0 else if j = 1 then 9 else if j = 2 then 19 else 29
def gm_W2 (j : Nat) : Int32 := if j = 0 then 0 else if j = 1 then 5 else if j = 2 then 12 else 29
def gm_S (ad : Nat → Nat) (s : State) : Prop := va_Z "CheeseEar" "DIGEST_WARM_NIGHTS" "[I" (.ref (ad 81)) (gm_A ad) s s.heap ∧ va_T .int (ad 81) 4 (fun j => .int (gm_W1 j)) (gm_A ad) s s.heap ∧ va_Z "CheeseEar" "DIGEST_AT_NIGHTS" "[I" (.ref (ad 82)) (gm_A ad) s s.heap ∧ va_T .int (ad 82) 4 (fun j => .int (gm_W2 j)) (gm_A ad) s s.heap
theorem gm_S.moved {ad : Nat → Nat} {u U : State} (hvm : u.vm.Alike U.vm) (hk : ∀ a : Nat, a < u.heap.size → ¬ gm_A ad a → U.heap[a]? = u.heap[a]?) (h : gm_S ad u) : gm_S ad U :=
  ⟨(h.1.moved hvm).kept hk, (h.2.1.moved hvm).kept hk, (h.2.2.1.moved hvm).kept hk, (h.2.2.2.moved hvm).kept hk⟩
/-! THE JUDGEMENTS. The words that every method takes: all of the tables that stay when classes are warmed; the nest mates' links are carried beside them -/
def gm_tb : List Cond := lw_tbl.filter goodWord
def gm_isN : Cond → Bool
  | .methodLinkNest _ _ _ _ => true
  | .fieldLinkNest _ _ _ _ _ _ => true
  | _ => false
def gm_N (s : State) : Prop := ∀ w ∈ lw_tbl, gm_isN w = true → va_Nw w s
theorem gm_N.warm {s U : State} (hW : s.WarmedH U.vm) (h : gm_N s) : gm_N U := by
  intro w hw hn
  have h1 := h w hw hn
  cases w <;> first | exact va_Nw.warmM hW h1 | exact va_Nw.warmF hW h1 | (simp [gm_isN] at hn; done)
theorem gm_N.same {s U : State} (hv : s.vm = U.vm) (h : gm_N s) : gm_N U := by
  intro w hw hn
  have h1 := h w hw hn
  cases w <;> first | exact va_tabs rfl hv h1 | (simp [gm_isN] at hn; done)
theorem gm_hw {args : Array Value} {s : State} (h : ∀ w ∈ gm_tb, w.before args s = true) {w : Cond} (hm : w ∈ lw_tbl) (hg : goodWord w = true) : w.before args s = true := h w (List.mem_filter.mpr ⟨hm, hg⟩)
theorem gm_good : ∀ w ∈ gm_tb, goodWord w = true := fun _ h => (List.mem_filter.mp h).2
theorem gm_uw {C : String} {T : u_T} {N : Nat} (h : ∀ w ∈ u_ws C T N, w ∈ lw_tbl) : ∀ w ∈ u_ws C T N, w ∈ gm_tb := by
  intro w hw
  refine List.mem_filter.mpr ⟨h w hw, ?_⟩
  obtain ⟨k, -, rfl⟩ := List.mem_map.mp hw
  unfold u_lay
  split <;> rfl
def gm_r (d : Nat) : Room := { frames := d, cells := 0, slots := 0, locals := 40 * d }
def gm_X (y : MethodName) (cc : ByteArray) (nL : Nat) (ret : Option FieldType) (p : Program) (s : State) (m : MethodId) (args : Array Value) (meth : Method) (c : Code) (D : va_G) (ad : Nat → Nat) (kc : Nat → ClassId) : Prop :=
  p.tables.exec = Jvm.exec ∧ c.code = cc ∧ meth.sig.returnType = ret ∧ c.maxLocals = nL ∧ s.vm.findClass y.cls = some m.cls ∧ (∀ w ∈ gm_tb, w.before args s = true) ∧ meth.locks = false ∧ va_K D vwCl (gm_tl kc) s ∧ gm_inj ad ∧ gm_S ad s ∧ gm_N s
def gm_q (D : va_G) (ad : Nat → Nat) (kc : Nat → ClassId) (Post : Option Value → gm_M → Prop) : Array Value → State → Outcome → State → Prop := fun _ st o t =>
  (∃ (r : Option Value) (μ' : gm_M), o = .returned (r.map (gm_v ad)) ∧ Post r μ' ∧ va_P D vwCl (gm_w ad kc μ') t.heap ∧ va_K D vwCl (gm_tl kc) t) ∧ va_F (gm_A ad) st t
/-- from here, inside the method, with these locals, this stack and this memory, it comes to its end with Post -/
def Go (y : MethodName) (cc : ByteArray) (nL : Nat) (ret : Option FieldType) (d : Nat) (pc : Nat) (L : List (Option Value)) (st : List Value) (μ : gm_M) (Post : Option Value → gm_M → Prop) : Prop :=
  ∀ (l : Launch) (p : Program) (e : Env) (s : State) (m : MethodId) (args : Array Value) (below : List Frame) (meth : Method) (c : Code) (D : va_G) (ad : Nat → Nat) (kc : Nat → ClassId) (H : Heap) (locs : List Loc) (ls : Array Slot),
    gm_X y cc nL ret p s m args meth c D ad kc → va_P D vwCl (gm_w ad kc μ) H → va_S (gm_A ad) s.heap H locs → lv_has ls nL (gm_l ad L) →
    W p l e (gm_r d) s m args below meth c H locs 0 0 (MQ below (gm_q D ad kc Post) args s 0 0 (gm_A ad)) (F0 m pc ls (st.map (gm_v ad)))
def gm_B (D : va_G) (ad : Nat → Nat) (kc : Nat → ClassId) (μ : gm_M) (U : State) : Prop := va_P D vwCl (gm_w ad kc μ) U.heap ∧ va_K D vwCl (gm_tl kc) U ∧ gm_inj ad ∧ gm_S ad U ∧ gm_N U
/-- the method, called on these arguments with this memory, returns with Post -/
def Sat (y : MethodName) (cc : ByteArray) (nL : Nat) (ret : Option FieldType) (d : Nat) (As : List Value) (μ : gm_M) (Post : Option Value → gm_M → Prop) : Prop :=
  ∀ (l : Launch) (D : va_G) (ad : Nat → Nat) (kc : Nat → ClassId), Met l y (Cond.code y cc nL ret :: gm_tb) (gm_r d) (va_Pc (As.map (gm_v ad)) (gm_B D ad kc μ)) (gm_q D ad kc Post) 0 0 (gm_A ad)
theorem Sat.of {y : MethodName} {cc : ByteArray} {nL : Nat} {ret : Option FieldType} {d : Nat} {As : List Value} {L : List (Option Value)} {μ : gm_M} {Post : Option Value → gm_M → Prop} (hy : plainName y.cls = true) (hn : ∀ ad : Nat → Nat, Nat.ble (lg_sl (As.map (gm_v ad))).length nL = true) (hL : ∀ ad : Nat → Nat, lv_args 0 (As.map (gm_v ad)) = gm_l ad L)
    (g : Go y cc nL ret d 0 L [] μ Post) : Sat y cc nL ret d As μ Post := by
  intro l D ad kc
  refine Met.ofW (cc := cc) (maxL := nL) (ret := ret) hy rfl ?_
  intro p e s m args below meth c s₁ B hml hv
  obtain ⟨rfl, hP, hK, hi, hSt, hN⟩ := hv
  have hts := atoms_spec (ws := Cond.code y cc nL ret :: gm_tb) B.pre
  have hl := lv_entry (As.map (gm_v ad)) (n := nL) (Nat.le_of_ble_eq_true (hn ad))
  rw [hL ad] at hl
  rw [lg_entry_eq]
  exact g l p e s m _ below meth c D ad kc s.heap [] _ ⟨B.exec, B.bytes, B.returns, hml, findClass_of_methodNamed B.named, fun w hw => hts w (List.mem_cons_of_mem _ hw), B.notSynchronized, hK, hi, hSt, hN⟩ hP va_S.rf hl
theorem Go.post {y : MethodName} {cc : ByteArray} {nL : Nat} {ret : Option FieldType} {d pc : Nat} {L : List (Option Value)} {st : List Value} {μ : gm_M} {P P' : Option Value → gm_M → Prop} (h : ∀ r μ', P r μ' → P' r μ') (g : Go y cc nL ret d pc L st μ P) : Go y cc nL ret d pc L st μ P' := by
  intro l p e s m args below meth c D ad kc H locs ls X hP hS hl T hT Z
  obtain ⟨t, h1, o, h2, h3, ⟨⟨r, μ', q1, q2, q3⟩, q4⟩, h5⟩ := g l p e s m args below meth c D ad kc H locs ls X hP hS hl T hT Z
  exact ⟨t, h1, o, h2, h3, ⟨⟨r, μ', q1, h r μ' q2, q3⟩, q4⟩, h5⟩
theorem Sat.post {y : MethodName} {cc : ByteArray} {nL : Nat} {ret : Option FieldType} {d : Nat} {As : List Value} {μ : gm_M} {P P' : Option Value → gm_M → Prop} (h : ∀ r μ', P r μ' → P' r μ') (g : Sat y cc nL ret d As μ P) : Sat y cc nL ret d As μ P' := by
  intro l D ad kc
  intro p e ha hc hk s m args below hf happ hpre hK
  obtain ⟨t, o, h1, h2, h3, ⟨⟨r, μ', q1, q2, q3⟩, q4⟩, h5⟩ := g l D ad kc p e ha hc hk s m args below hf happ hpre hK
  exact ⟨t, o, h1, h2, h3, ⟨⟨r, μ', q1, h r μ' q2, q3⟩, q4⟩, h5⟩
