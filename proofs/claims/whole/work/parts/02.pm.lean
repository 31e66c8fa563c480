/-! ===== a body's judgement over ONE heap of cells, by their places: pm_Ev; a method's contract: pm_En ===== -/
/-- a method: name, bytes, locals, answer's type, table of handlers, frames and words that it needs below -/
abbrev pm_M : Type := MethodName × ByteArray × Nat × Option FieldType × List (Nat × Nat × Nat × Nat) × Nat × Nat
abbrev pm_H : Type := List va_E
/-- an answer, or the class of what is thrown -/
abbrev pm_O : Type := Option Value ⊕ String
/-- where things lie: the first new address, the classes, the array classes by their kinds, old cells by numbers (0: the script), the script -/
abbrev pm_G : Type := Nat × va_G × (Nat → ClassId) × (Nat → Nat) × Nat × (Nat → Int32)
def pm_A (G : pm_G) : Nat → Prop := fun q => G.1 ≤ q
def pm_rv (G : pm_G) : Value → Value
  | .ref k => .ref (G.1 + k)
  | .retAddr j => .ref (G.2.2.2.1 j)
  | v => v
def pm_re (G : pm_G) : va_E → va_E
  | .inr o => .inr (o.1, o.2.map (pm_rv G))
  | .inl (kd, n, .inr (.inr (.inr (.inr f)))) => .inl (G.2.2.1 kd, n, .inr (.inr (.inr (.inr fun j => (f j).map fun k => G.1 + k))))
  | .inl (kd, n, .inr (.inr (.inr (.inl f)))) => .inl (G.2.2.1 kd, n, .inr (.inr (.inr (.inl f))))
  | .inl (kd, n, .inr (.inr (.inl f))) => .inl (G.2.2.1 kd, n, .inr (.inr (.inl f)))
  | .inl (kd, n, .inr (.inl f)) => .inl (G.2.2.1 kd, n, .inr (.inl f))
  | .inl (kd, n, .inl f) => .inl (G.2.2.1 kd, n, .inl f)
def pm_ws (G : pm_G) (h : pm_H) : va_W := h.mapIdx fun k c => (G.1 + k, pm_re G c)
theorem pm_at {G : pm_G} {h : pm_H} {k : Nat} {c : va_E} (hk : h[k]? = some c) : (pm_ws G h)[k]? = some (G.1 + k, pm_re G c) := by
  simp [pm_ws, List.getElem?_mapIdx, hk]
theorem pm_set {G : pm_G} {h : pm_H} {k : Nat} {c : va_E} : (pm_ws G h).set k (G.1 + k, pm_re G c) = pm_ws G (h.set k c) := by
  apply List.ext_getElem?
  intro i
  simp only [pm_ws, List.getElem?_set, List.getElem?_mapIdx, List.length_mapIdx]
  by_cases hi : k = i
  · subst hi
    by_cases hl : k < h.length <;> simp [hl]
  · simp [hi]
theorem pm_push {G : pm_G} {h : pm_H} {c : va_E} : pm_ws G (h ++ [c]) = pm_ws G h ++ [(G.1 + h.length, pm_re G c)] := by
  simp [pm_ws, List.mapIdx_append]
theorem pm_D (G : pm_G) (h : pm_H) : va_D (pm_A G) (pm_ws G h) := by
  refine ⟨fun i j p q hi hj e => ?_, fun k q hk => ?_⟩
  · simp only [pm_ws, List.getElem?_mapIdx, Option.map_eq_some_iff] at hi hj
    obtain ⟨a, -, rfl⟩ := hi
    obtain ⟨b, -, rfl⟩ := hj
    have e : G.1 + i = G.1 + j := e
    omega
  · simp only [pm_ws, List.getElem?_mapIdx, Option.map_eq_some_iff] at hk
    obtain ⟨a, -, rfl⟩ := hk
    exact Nat.le_add_right _ _
theorem pm_cat (G : pm_G) (v : Value) : (pm_rv G v).category = v.category := by cases v <;> rfl
def pm_lv (G : pm_G) (lv : List (Nat × Value)) : List (Nat × Value) := lv.map fun q => (q.1, pm_rv G q.2)
def pm_lk (lv : List (Nat × Value)) (i : Nat) : Option Value := (lv.find? fun q => q.1 == i).map fun q => q.2
theorem pm_lk_at {G : pm_G} {lv : List (Nat × Value)} {i n : Nat} {v : Value} {ls : Array Slot} (h : lv_has ls n (pm_lv G lv)) (hk : pm_lk lv i = some v) : ls[i]? = some (.val (pm_rv G v)) := by
  simp only [pm_lk, Option.map_eq_some_iff] at hk
  obtain ⟨q, hq, rfl⟩ := hk
  have h1 := List.mem_of_find?_eq_some hq
  have h2 := List.find?_some hq
  simp only [beq_iff_eq] at h2
  have h3 := h.2.2 (q.1, pm_rv G q.2) (List.mem_map.mpr ⟨q, h1, rfl⟩)
  rw [← h2]
  exact h3
/-- locals behind a store of one word, and of two -/
def pm_s1 (lv : List (Nat × Value)) (i : Nat) (v : Value) : List (Nat × Value) := (i, v) :: lv.filter (fun q => !(q.1 == i) && !(q.1 + 1 == i && q.2.category == 2))
def pm_s2 (lv : List (Nat × Value)) (i : Nat) (v : Value) : List (Nat × Value) := (i, v) :: lv.filter (fun q => !(q.1 == i) && (!(q.1 == i + 1) && !(q.1 + 1 == i && q.2.category == 2)))
theorem pm_s1_eq (G : pm_G) (lv : List (Nat × Value)) (i : Nat) (v : Value) : (i, pm_rv G v) :: (pm_lv G lv).filter (fun q => !(q.1 == i) && !(q.1 + 1 == i && q.2.category == 2)) = pm_lv G (pm_s1 lv i v) := by
  simp only [pm_lv, pm_s1, List.map_cons, List.filter_map]
  congr 2
  apply List.filter_congr
  intro q _
  simp [Function.comp, pm_cat]
theorem pm_s2_eq (G : pm_G) (lv : List (Nat × Value)) (i : Nat) (v : Value) : (i, pm_rv G v) :: (pm_lv G lv).filter (fun q => !(q.1 == i) && (!(q.1 == i + 1) && !(q.1 + 1 == i && q.2.category == 2))) = pm_lv G (pm_s2 lv i v) := by
  simp only [pm_lv, pm_s2, List.map_cons, List.filter_map]
  congr 2
  apply List.filter_congr
  intro q _
  simp [Function.comp, pm_cat]
theorem pm_args (G : pm_G) (av : List Value) (i : Nat) : lv_args i (av.map (pm_rv G)) = pm_lv G (lv_args i av) := by
  induction av generalizing i with
  | nil => rfl
  | cons v t ih =>
    simp only [List.map_cons, lv_args, pm_lv, pm_cat]
    rw [ih]
    rfl
theorem pm_sl (G : pm_G) (av : List Value) : (lg_sl (av.map (pm_rv G))).length = (lg_sl av).length := by
  induction av with
  | nil => rfl
  | cons v t ih =>
    simp only [lg_sl, List.map_cons, List.flatMap_cons, List.length_append, pm_cat] at ih ⊢
    rw [ih]
    split <;> rfl
def pm_tbl : List Cond := lw_tbl.filter goodWord
theorem pm_in {w : Cond} (h : w ∈ lw_tbl) (hg : goodWord w = true) : w ∈ pm_tbl := List.mem_filter.mpr ⟨h, hg⟩
theorem pm_ta {w : Cond} (h : w ∈ tables_1) : w ∈ lw_tbl := List.mem_append_right _ h
theorem pm_se {w : Cond} (h : w ∈ k2_sels lw_privs) : w ∈ lw_tbl := List.mem_append_left _ h
