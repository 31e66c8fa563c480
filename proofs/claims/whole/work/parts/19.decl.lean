/-! ===== a throw, its words by what the tables say ===== -/
theorem pm_decl {args : Array Value} {s : State} {y : MethodName} {b : ByteArray} {m : Nat} {ret : Option FieldType} (h1 : (Cond.instanceMethod y).before args s = true) (h2 : (Cond.code y b m ret).before args s = true) : (Cond.declares y).before args s = true := by
  obtain ⟨r0, r, hn, hm, hs, hp⟩ := va_Decl.of h1 h2
  simp [Cond.before, Cond.holds, Cond.value, hn, hm, hs, hp]
theorem pm_throwD {l : Launch} {G : pm_G} {fi : Bool} {M : pm_M} {pc : Nat} {lv : List (Nat × Value)} {st : List Value} {h : pm_H} {cls : String} {names : List String} {ik ic : Nat} (hM : M.2.2.2.2.1 = []) (hcls : Bundle.fit cls = true) (hnames : ∀ n ∈ names, Bundle.fit n = true) (w1 : Cond.classLink M.1.cls ik cls ∈ pm_tbl) (w2 : Cond.initialized cls ∈ pm_tbl) (hat : ∀ (args : Array Value) (s : State), (∀ w ∈ pm_tbl, w.before args s = true) → (∀ w ∈ pm_nst, va_Nw w s) → ∀ w ∈ vx_at0 M.1.cls ic cls names, w.before args s = true) (hgood : ∀ w ∈ Cond.classLink M.1.cls ik cls :: Cond.initialized cls :: vx_at0 M.1.cls ic cls names, vx_ot w = true)
    (d0 : decode M.2.1 pc = .ok (.new ik, 3)) (d3 : decode M.2.1 (pc + 3) = .ok (.dup, 1)) (d4 : decode M.2.1 (pc + 4) = .ok (.invokespecial ic, 3)) (d7 : decode M.2.1 (pc + 7) = .ok (.athrow, 1)) (hfr : names.length + 3 < M.2.2.2.2.2.1) (hlo : (st.map fun v => v.category).sum + (13 * (names.length + 1) + 42) ≤ M.2.2.2.2.2.2) : pm_Ev l G fi false 1 6 M pc lv st h (.inr cls, h) := by
  intro p e s m args below meth c H locs cells slots mc ms ls C P S L k1 k2
  obtain ⟨hx, hb, hml, ho, ht, -, hlk, htb, -, hF, hl⟩ := id C
  have htbl : ∀ x ∈ c.exceptionTable.toList, covers x (pc + 7) = false := by
    rw [htb, hM]
    intro x hx
    cases hx
  have e1 : ((fun v : Value => v.category) ∘ pm_rv G) = fun v => v.category := by funext v; exact pm_cat G v
  have K := vx_throw0 (p := p) (l := l) (e := e) (R := pm_rm M mc ms) (s := s) (m := m) (args := args) (below := below) (meth := meth) (c := c) (H := H) (locs := locs) (cells := cells) (slots := slots) (free := pm_A G) (ls := ls) (rest := st.map (pm_rv G)) (Qc := fun _ _ _ _ => False) (XC := fun E' st t => E' = cls ∧ pm_Hp G false h t.heap ∧ va_F (pm_A G) st t) (mc := mc) (ms := ms) (A := pm_A G) hx hb hl ho hcls hnames (ht _ w1) (ht _ w2) (hat args s ht hF.2.1) hgood hF.2.2.2.2.2.2.2.2.1 hF.2.2.2.2.2.2.2.2.2 S (by rw [hml]; exact L.1) d0 d3 d4 d7 htbl hfr (by rw [List.map_map, e1]; exact hlo) (by show cells + 1 ≤ mc; omega) (by show slots + 6 ≤ ms; omega) hlk
    (fun t hal hz hk => ⟨rfl, ⟨P.1.kept fun k x hx => hk x.1 ((P.1 k x hx).lt), Nat.le_trans P.2.1 hz, fun q => by cases q⟩, Nat.le_trans S.1 hz, fun q g1 g2 => (hk q (Nat.lt_of_lt_of_le g1 S.1)).trans (S.2.1 q g1 g2)⟩) S.2.2 (by omega) (by omega)
  intro T hT X
  obtain ⟨t, a1, o, b1, b2, b3⟩ := K T hT X
  rcases b3 with ⟨b3, -⟩ | ⟨q, rfl, E, ce, L9, ⟨rfl, g2, g3⟩, g4, g5, g6, g7, g8, g9⟩
  · exact b3.elim
  · exact ⟨t, a1, _, b1, b2, ⟨⟨q, ce, rfl, g4, g5, g6⟩, g2, g3⟩, g7, L9, g8, g9⟩
theorem pm_t1 {w : Cond} {i : Nat} (h : tables_1[i]? = some w) (hg : goodWord w = true) : w ∈ pm_tbl := pm_in (pm_ta (List.mem_of_getElem? h)) hg
theorem pm_t2 {w : Cond} {i : Nat} (h : tables_1[i]? = some w) (hg : pm_isN w = true) : w ∈ pm_nst := pm_ni (pm_ta (List.mem_of_getElem? h)) hg
