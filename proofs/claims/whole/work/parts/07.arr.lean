/-! ===== arrays; what is made; the script and the static table ===== -/
abbrev pm_I (n : Nat) (f : Nat → Int32) : va_E := .inl (0, n, .inl f)
abbrev pm_Dd (n : Nat) (f : Nat → UInt64) : va_E := .inl (1, n, .inr (.inr (.inr (.inl f))))
abbrev pm_Lg (n : Nat) (f : Nat → Int64) : va_E := .inl (2, n, .inr (.inl f))
abbrev pm_Rf (kd n : Nat) (f : Nat → Option Nat) : va_E := .inl (kd, n, .inr (.inr (.inr (.inr f))))
abbrev pm_Ob (ci : Nat) (fs : List Value) : va_E := .inr (ci, fs)
section PMA
variable {l : Launch} {G : pm_G} {fi fo : Bool} {kc ks : Nat} {M : pm_M} {pc : Nat} {lv : List (Nat × Value)} {st : List Value} {h : pm_H} {r : pm_O × pm_H}
theorem pm_iald {i : Int32} {j n a : Nat} {f : Nat → Int32} (d : decode M.2.1 pc = .ok (.iaload, 1)) (he : h[a]? = some (pm_I n f)) (hi : i = nI j) (hj : j < n) (hn : n < 2 ^ 31) (kk : pm_Ev l G fi fo kc ks M (pc + 1) lv (.int (f j) :: st) h r) : pm_Ev l G fi fo kc ks M pc lv (.int i :: .ref a :: st) h r := by
  subst hi
  intro p e s m args below meth c H locs cells slots mc ms ls C P S L k1 k2
  refine va_iald C.1 C.2.1 C.2.2.2.2.2.2.2.2.2.1.1 P.1 a 0 (pm_at he) rfl (vp_in_nI hj hn) d ?_
  rw [nI_clamp (by omega)]
  exact kk p e s m args below meth c H locs cells slots mc ms ls C P S L k1 k2
theorem pm_dald {i : Int32} {j n a : Nat} {f : Nat → UInt64} (d : decode M.2.1 pc = .ok (.daload, 1)) (he : h[a]? = some (pm_Dd n f)) (hi : i = nI j) (hj : j < n) (hn : n < 2 ^ 31) (kk : pm_Ev l G fi fo kc ks M (pc + 1) lv (.double (f j) :: st) h r) : pm_Ev l G fi fo kc ks M pc lv (.int i :: .ref a :: st) h r := by
  subst hi
  intro p e s m args below meth c H locs cells slots mc ms ls C P S L k1 k2
  refine va_dald C.1 C.2.1 C.2.2.2.2.2.2.2.2.2.1.1 P.1 a 1 (pm_at he) rfl (vp_in_nI hj hn) d ?_
  rw [nI_clamp (by omega)]
  exact kk p e s m args below meth c H locs cells slots mc ms ls C P S L k1 k2
theorem pm_lald {i : Int32} {j n a : Nat} {f : Nat → Int64} (d : decode M.2.1 pc = .ok (.laload, 1)) (he : h[a]? = some (pm_Lg n f)) (hi : i = nI j) (hj : j < n) (hn : n < 2 ^ 31) (kk : pm_Ev l G fi fo kc ks M (pc + 1) lv (.long (f j) :: st) h r) : pm_Ev l G fi fo kc ks M pc lv (.int i :: .ref a :: st) h r := by
  subst hi
  intro p e s m args below meth c H locs cells slots mc ms ls C P S L k1 k2
  refine va_lald C.1 C.2.1 C.2.2.2.2.2.2.2.2.2.1.1 P.1 a 2 (pm_at he) rfl (vp_in_nI hj hn) d ?_
  rw [nI_clamp (by omega)]
  exact kk p e s m args below meth c H locs cells slots mc ms ls C P S L k1 k2
theorem pm_aald {i : Int32} {j n a b kd : Nat} {Cn : String} {f : Nat → Option Nat} (d : decode M.2.1 pc = .ok (.aaload, 1)) (hkd : ∀ G : pm_G, (pm_tys G)[kd]? = some (G.2.2.1 kd, .object Cn)) (he : h[a]? = some (pm_Rf kd n f)) (hi : i = nI j) (hj : j < n) (hn : n < 2 ^ 31) (hf : f j = some b) (kk : pm_Ev l G fi fo kc ks M (pc + 1) lv (.ref b :: st) h r) : pm_Ev l G fi fo kc ks M pc lv (.int i :: .ref a :: st) h r := by
  subst hi
  intro p e s m args below meth c H locs cells slots mc ms ls C P S L k1 k2
  refine va_aldq C.1 C.2.1 C.2.2.2.2.2.2.2.2.2.1.1 P.1 a kd (pm_at he) (hkd G) (vp_in_nI hj hn) d ?_
  rw [nI_clamp (by omega), hf]
  exact kk p e s m args below meth c H locs cells slots mc ms ls C P S L k1 k2
theorem pm_iast {i x : Int32} {j n a : Nat} {f : Nat → Int32} (d : decode M.2.1 pc = .ok (.iastore, 1)) (he : h[a]? = some (pm_I n f)) (hi : i = nI j) (hj : j < n) (hn : n < 2 ^ 31) (kk : pm_Ev l G fi fo kc ks M (pc + 1) lv st (h.set a (pm_I n (va_up f j x))) r) : pm_Ev l G fi fo kc ks M pc lv (.int x :: .int i :: .ref a :: st) h r := by
  subst hi
  intro p e s m args below meth c H locs cells slots mc ms ls C P S L k1 k2
  refine W.iast C.1 C.2.1 (P.1 a _ (pm_at he)) ((C.2.2.2.2.2.2.2.2.2.1.1.2 0 _ rfl).1 n (fun j => .int (f j))) (fun q => by cases q) (by show ¬ (nI j < 0 ∨ (arrV _ _ _).slots.size ≤ _); rw [arrV_size]; exact vp_in_nI hj hn) rfl rfl d fun H1 e1 z oq => ?_
  refine kk p e s m args below meth c H1 _ cells slots mc ms ls C (P.set he ?_ z oq) (S.put z oq (Nat.le_add_right _ _)) L k1 k2
  show H1[G.1 + a]? = some (vp_cell _ _)
  rw [e1, nI_clamp (by omega)]
  show some ((vp_cell (G.2.2.1 0) (n, .inl f)).setSlot j (.int x)) = some (vp_cell (G.2.2.1 0) (n, .inl (va_up f j x)))
  rw [vp_cell_i, vp_cell_i, arrV_store]
  congr 2
  funext q
  by_cases hq : q = j
  · subst hq
    simp [updV, va_up]
  · simp [updV, va_up, hq]
theorem pm_dast {i : Int32} {x : UInt64} {j n a : Nat} {f : Nat → UInt64} (d : decode M.2.1 pc = .ok (.dastore, 1)) (he : h[a]? = some (pm_Dd n f)) (hi : i = nI j) (hj : j < n) (hn : n < 2 ^ 31) (kk : pm_Ev l G fi fo kc ks M (pc + 1) lv st (h.set a (pm_Dd n (va_up f j x))) r) : pm_Ev l G fi fo kc ks M pc lv (.double x :: .int i :: .ref a :: st) h r := by
  subst hi
  intro p e s m args below meth c H locs cells slots mc ms ls C P S L k1 k2
  refine W.dast C.1 C.2.1 (P.1 a _ (pm_at he)) ((C.2.2.2.2.2.2.2.2.2.1.1.2 1 _ rfl).1 n (fun j => .double (f j))) (fun q => by cases q) (by show ¬ (nI j < 0 ∨ (arrV _ _ _).slots.size ≤ _); rw [arrV_size]; exact vp_in_nI hj hn) rfl rfl d fun H1 e1 z oq => ?_
  refine kk p e s m args below meth c H1 _ cells slots mc ms ls C (P.set he ?_ z oq) (S.put z oq (Nat.le_add_right _ _)) L k1 k2
  show H1[G.1 + a]? = some (vp_cell _ _)
  rw [e1, nI_clamp (by omega)]
  show some ((vp_cell (G.2.2.1 1) (n, .inr (.inr (.inr (.inl f))))).setSlot j (.double x)) = some (vp_cell (G.2.2.1 1) (n, .inr (.inr (.inr (.inl (va_up f j x))))))
  rw [vp_cell_d, vp_cell_d, arrV_store]
  congr 2
  funext q
  by_cases hq : q = j
  · subst hq
    simp [updV, va_up]
  · simp [updV, va_up, hq]
theorem pm_last {i : Int32} {x : Int64} {j n a : Nat} {f : Nat → Int64} (d : decode M.2.1 pc = .ok (.lastore, 1)) (he : h[a]? = some (pm_Lg n f)) (hi : i = nI j) (hj : j < n) (hn : n < 2 ^ 31) (kk : pm_Ev l G fi fo kc ks M (pc + 1) lv st (h.set a (pm_Lg n (va_up f j x))) r) : pm_Ev l G fi fo kc ks M pc lv (.long x :: .int i :: .ref a :: st) h r := by
  subst hi
  intro p e s m args below meth c H locs cells slots mc ms ls C P S L k1 k2
  refine W.last C.1 C.2.1 (P.1 a _ (pm_at he)) ((C.2.2.2.2.2.2.2.2.2.1.1.2 2 _ rfl).1 n (fun j => .long (f j))) (fun q => by cases q) (by show ¬ (nI j < 0 ∨ (arrV _ _ _).slots.size ≤ _); rw [arrV_size]; exact vp_in_nI hj hn) rfl rfl d fun H1 e1 z oq => ?_
  refine kk p e s m args below meth c H1 _ cells slots mc ms ls C (P.set he ?_ z oq) (S.put z oq (Nat.le_add_right _ _)) L k1 k2
  show H1[G.1 + a]? = some (vp_cell _ _)
  rw [e1, nI_clamp (by omega)]
  show some ((vp_cell (G.2.2.1 2) (n, .inr (.inl f))).setSlot j (.long x)) = some (vp_cell (G.2.2.1 2) (n, .inr (.inl (va_up f j x))))
  rw [vp_cell_l, vp_cell_l, arrV_store]
  congr 2
  funext q
  by_cases hq : q = j
  · subst hq
    simp [updV, va_up]
  · simp [updV, va_up, hq]
theorem pm_aast {i : Int32} {j n a b kd ci N : Nat} {Cn : String} {T : u_T} {f : Nat → Option Nat} {fs : List Value} (d : decode M.2.1 pc = .ok (.aastore, 1)) (hkd : ∀ G : pm_G, (pm_tys G)[kd]? = some (G.2.2.1 kd, .object Cn)) (he : h[a]? = some (pm_Rf kd n f)) (hb0 : h[b]? = some (pm_Ob ci fs)) (hcl : pm_cl[ci]? = some (Cn, T, N)) (hi : i = nI j) (hj : j < n) (hn : n < 2 ^ 31) (kk : pm_Ev l G fi fo kc ks M (pc + 1) lv st (h.set a (pm_Rf kd n (va_up f j (some b)))) r) : pm_Ev l G fi fo kc ks M pc lv (.ref b :: .int i :: .ref a :: st) h r := by
  subst hi
  intro p e s m args below meth c H locs cells slots mc ms ls C P S L k1 k2
  have hK := C.2.2.2.2.2.2.2.2.2.1.1
  have hin := vp_in_nI hj hn
  obtain ⟨r', hr', cellV, g1, g2, g3, -⟩ := P.1 b _ (pm_at hb0)
  have hcls := (hK.1 ci _ hcl).2
  obtain ⟨kA, comp, q1, q2, q3, -⟩ := (hK.2 kd _ (hkd G)).2
  have hcomp : comp = G.2.1.1 ci := Option.some.inj (q3.symm.trans hcls.1)
  subst hcomp
  obtain ⟨kC, hkC, -⟩ := id hcls.2
  refine W.aast C.1 C.2.1 (P.1 a _ (pm_at he)) (fun q h => by cases h) (fun h => by cases h) q1 q2 rfl hkC ⟨fun q => hin (Or.inl q), by show _ < (arrV _ _ _).slots.size; rw [arrV_size, nI_clamp (by omega)]; exact hj⟩ g1 (fun q h => by rw [g3] at h; cases h) (by rw [g2]; exact hkC) (by rw [g2]; exact va_assign hcls) rfl rfl d fun H1 e1 z oq => ?_
  refine kk p e s m args below meth c H1 _ cells slots mc ms ls C (P.set he ?_ z oq) (S.put z oq (Nat.le_add_right _ _)) L k1 k2
  show H1[G.1 + a]? = some (vp_cell _ _)
  rw [e1, nI_clamp (by omega)]
  show some ((vp_cell (G.2.2.1 kd) (n, .inr (.inr (.inr (.inr (fun j => (f j).map fun k => G.1 + k)))))).setSlot j (.ref (G.1 + b))) = some (vp_cell (G.2.2.1 kd) (n, .inr (.inr (.inr (.inr (fun q => (va_up f j (some b) q).map fun k => G.1 + k))))))
  rw [vp_cell_q, vp_cell_q, arrV_store]
  congr 2
  funext q
  by_cases hq : q = j
  · subst hq
    simp [updV, va_up, va_rf]
  · simp [updV, va_up, hq]
theorem pm_alenD {n a : Nat} {f : Nat → UInt64} (d : decode M.2.1 pc = .ok (.arraylength, 1)) (he : h[a]? = some (pm_Dd n f)) (kk : pm_Ev l G fi fo kc ks M (pc + 1) lv (.int (nI n) :: st) h r) : pm_Ev l G fi fo kc ks M pc lv (.ref a :: st) h r :=
  fun p e s m args below meth c H locs cells slots mc ms ls C P S L k1 k2 => va_alen C.1 C.2.1 C.2.2.2.2.2.2.2.2.2.1.1 P.1 a 1 (pm_at he) (ty := .double) rfl (v := nI n) rfl d (kk p e s m args below meth c H locs cells slots mc ms ls C P S L k1 k2)
/-- the script -/
theorem pm_sld {i : Int32} {j : Nat} (d : decode M.2.1 pc = .ok (.iaload, 1)) (hi : i = nI j) (hj : j < G.2.2.2.2.1) (hn : G.2.2.2.2.1 < 2 ^ 31) (kk : pm_Ev l G fi fo kc ks M (pc + 1) lv (.int (G.2.2.2.2.2 j) :: st) h r) : pm_Ev l G fi fo kc ks M pc lv (.int i :: .retAddr 0 :: st) h r := by
  subst hi
  intro p e s m args below meth c H locs cells slots mc ms ls C P S L k1 k2
  obtain ⟨hx, hb, -, -, -, -, -, -, -, ⟨-, -, -, hz, h0, hX, -⟩, -⟩ := id C
  refine va_sld hx hb hX (Nat.lt_of_lt_of_le h0 hz) (Nat.not_le.mpr h0) S (vp_in_nI hj hn) d ?_
  rw [nI_clamp (by omega)]
  exact kk p e s m args below meth c H locs cells slots mc ms ls C P S L k1 k2
theorem pm_slen (d : decode M.2.1 pc = .ok (.arraylength, 1)) (kk : pm_Ev l G fi fo kc ks M (pc + 1) lv (.int (nI G.2.2.2.2.1) :: st) h r) : pm_Ev l G fi fo kc ks M pc lv (.retAddr 0 :: st) h r := by
  intro p e s m args below meth c H locs cells slots mc ms ls C P S L k1 k2
  obtain ⟨hx, hb, -, -, -, -, -, -, -, ⟨-, -, -, hz, h0, hX, -⟩, -⟩ := id C
  exact va_slen hx hb hX (Nat.lt_of_lt_of_le h0 hz) (Nat.not_le.mpr h0) S d (kk p e s m args below meth c H locs cells slots mc ms ls C P S L k1 k2)
/-- the static table -/
theorem pm_gets {idx : Nat} (d : decode M.2.1 pc = .ok (.getstatic idx, 3)) (hw : Cond.fieldLink M.1.cls idx "GraphRunner" "ARGUMENT_COUNTS" "[I" ∈ pm_tbl) (kk : pm_Ev l G fi fo kc ks M (pc + 3) lv (.retAddr 1 :: st) h r) : pm_Ev l G fi fo kc ks M pc lv st h r := by
  intro p e s m args below meth c H locs cells slots mc ms ls C P S L k1 k2
  obtain ⟨hx, hb, -, ho, ht, -, -, -, -, ⟨-, -, -, hz, h0, hX, hZ, -⟩, -⟩ := id C
  exact va_gets hx hb hZ S ho (ht _ hw) (fun _ q => q) d (kk p e s m args below meth c H locs cells slots mc ms ls C P S L k1 k2)
theorem pm_getsN {idx : Nat} {host : String} (d : decode M.2.1 pc = .ok (.getstatic idx, 3)) (hw : Cond.fieldLinkNest M.1.cls idx "GraphRunner" "ARGUMENT_COUNTS" "[I" host ∈ pm_nst) (kk : pm_Ev l G fi fo kc ks M (pc + 3) lv (.retAddr 1 :: st) h r) : pm_Ev l G fi fo kc ks M pc lv st h r := by
  intro p e s m args below meth c H locs cells slots mc ms ls C P S L k1 k2
  obtain ⟨hx, hb, -, ho, ht, -, -, -, -, ⟨-, hN, -, hz, h0, hX, hZ, -⟩, -⟩ := id C
  exact va_getsN hx hb hZ S ho (va_Nw.use rfl (hN _ hw)) (fun _ q => q) d (kk p e s m args below meth c H locs cells slots mc ms ls C P S L k1 k2)
theorem pm_tld {i : Int32} {j : Nat} (d : decode M.2.1 pc = .ok (.iaload, 1)) (hi : i = nI j) (hj : j < 19) (kk : pm_Ev l G fi fo kc ks M (pc + 1) lv (.int (pm_ac j) :: st) h r) : pm_Ev l G fi fo kc ks M pc lv (.int i :: .retAddr 1 :: st) h r := by
  subst hi
  intro p e s m args below meth c H locs cells slots mc ms ls C P S L k1 k2
  obtain ⟨hx, hb, -, ho, ht, -, -, -, -, ⟨-, -, -, hz, h0, hX, hZ, hT, -⟩, -⟩ := id C
  exact va_ti hx hb hT S (vp_in_nI hj (by decide)) (v := .int (pm_ac j)) (by rw [nI_clamp (by omega)]) d (kk p e s m args below meth c H locs cells slots mc ms ls C P S L k1 k2)
/-- a cell more -/
theorem pm_Hp.push {H H1 : Heap} {c : va_E} (hP : pm_Hp G true h H) (he : va_at G.2.1 pm_cl (G.1 + h.length, pm_re G c) H1) (hz : H1.size = H.size + 1) (oq : ∀ q : Nat, q < H.size → H1[q]? = H[q]?) : pm_Hp G true (h ++ [c]) H1 := by
  have e0 := hP.2.2 rfl
  refine ⟨?_, by rw [List.length_append, hz, e0]; simp; omega, fun _ => by rw [List.length_append, hz, e0]; simp; omega⟩
  rw [pm_push]
  refine (hP.1.kept fun k x hx => oq x.1 ((hP.1 k x hx).lt)).app fun k x hx => ?_
  have hz : k < 1 := (List.getElem?_eq_some_iff.mp hx).1
  rw [show k = 0 by omega] at hx
  cases hx
  exact he
theorem pm_Sg {s : State} {H H1 : Heap} {locs : List Loc} (S : va_S (pm_A G) s.heap H locs) (hz : H1.size = H.size + 1) (oq : ∀ q : Nat, q < H.size → H1[q]? = H[q]?) : va_S (pm_A G) s.heap H1 locs :=
  ⟨by rw [hz]; exact Nat.le_succ_of_le S.1, fun q h1 h2 => (oq q (Nat.lt_of_lt_of_le h1 S.1)).trans (S.2.1 q h1 h2), S.2.2⟩
theorem pm_new {idx ci N : Nat} {Cn : String} {T : u_T} {t0 : Nat → FieldType} {fs : List Value} (d : decode M.2.1 pc = .ok (.new idx, 3)) (hcl : pm_cl[ci]? = some (Cn, T, N)) (hin : ∀ w ∈ u_ws Cn T N, w ∈ pm_tbl) (hty : ∀ k, k < N → parseFieldDescriptor (T k).2.2.1 = some (t0 k)) (w1 : Cond.classLink M.1.cls idx Cn ∈ pm_tbl) (w2 : Cond.instantiable Cn N ∈ pm_tbl) (w3 : Cond.initialized Cn ∈ pm_tbl)
    (hfs : ∀ j, j < N → defaultValue (t0 j) = vp_V (fs.map (pm_rv G)) j) (kk : pm_Ev l G true fo kc ks M (pc + 3) lv (.ref h.length :: st) (h ++ [pm_Ob ci fs]) r) : pm_Ev l G true fo (kc + 1) (ks + N) M pc lv st h r := by
  intro p e s m args below meth c H locs cells slots mc ms ls C P S L k1 k2
  obtain ⟨hx, hb, -, ho, ht, -, -, -, -, hF, -⟩ := id C
  have hKn := hF.1.1 ci _ hcl
  have e0 := P.2.2 rfl
  refine W.newcK hx hb ho (ht _ w1) (ht _ w2) (ht _ w3) rfl d (by show cells + 1 ≤ mc; omega) (by show slots + N ≤ ms; omega) hKn.2.1 e0 fun H1 kC hkC e1 z1 o1 => ?_
  refine kk p e s m args below meth c H1 locs (cells + 1) (slots + N) mc ms ls C (P.push ⟨_, hcl, (u_born t0 ht hin hKn hkC e1 hty).to hfs⟩ (by rw [z1, e0]) (by rw [e0]; exact o1)) (pm_Sg S (by rw [z1, e0]) (by rw [e0]; exact o1)) L (by omega) (by omega)
theorem pm_newa {kd N : Nat} {n : Int32} {at9 : ArrayType} {a0 : vp_A} (d : decode M.2.1 pc = .ok (.newarray at9, 2)) (w1 : Cond.arrayClass (newarray.typeOf at9) ∈ pm_tbl) (hkd : ∀ G : pm_G, (pm_tys G)[kd]? = some (G.2.2.1 kd, newarray.typeOf at9)) (hre : ∀ G : pm_G, pm_re G (.inl (kd, a0)) = .inl (G.2.2.1 kd, a0)) (ha : ∀ cA : ClassId, vp_cell cA a0 = arrV cA N (fun _ => defaultValue (newarray.typeOf at9))) (hN : n = nI N) (hb0 : N * componentBytes (newarray.typeOf at9) ≤ 536870912) (hN2 : N < 2 ^ 31)
    (kk : pm_Ev l G true fo kc ks M (pc + 2) lv (.ref h.length :: st) (h ++ [.inl (kd, a0)]) r) : pm_Ev l G true fo (kc + 1) (ks + N) M pc lv (.int n :: st) h r := by
  subst hN
  intro p e s m args below meth c H locs cells slots mc ms ls C P S L k1 k2
  obtain ⟨hx, hb, -, ho, ht, -, -, -, -, hF, -⟩ := id C
  have e0 := P.2.2 rfl
  refine va_newaK hx hb (ht _ w1) rfl d rfl (nI_pos hN2) (nI_clamp hN2) hb0 (by show cells + 1 ≤ mc; omega) (by show slots + N ≤ ms; omega) e0 fun H1 cA e1 z1 o1 hAr hNm => ?_
  have hcA : cA = G.2.2.1 kd := by
    have h9 := (hF.1.2 kd _ (hkd G)).2
    have h8 : s.vm.findClass ("[" ++ (newarray.typeOf at9).toString) = some (G.2.2.1 kd) := by cases at9 <;> exact h9
    exact Option.some.inj (hNm.symm.trans h8)
  subst hcA
  refine kk p e s m args below meth c H1 locs (cells + 1) (slots + N) mc ms ls C (P.push ?_ (by rw [z1, e0]) (by rw [e0]; exact o1)) (pm_Sg S (by rw [z1, e0]) (by rw [e0]; exact o1)) L (by omega) (by omega)
  rw [hre G]
  show H1[G.1 + h.length]? = some (vp_cell _ _)
  rw [ha]
  exact e1
theorem pm_anew {idx kd N : Nat} {n : Int32} {Cn : String} (d : decode M.2.1 pc = .ok (.anewarray idx, 3)) (hkd : ∀ G : pm_G, (pm_tys G)[kd]? = some (G.2.2.1 kd, .object Cn)) (w1 : Cond.classLink M.1.cls idx Cn ∈ pm_tbl) (w2 : Cond.arrayOver (.object Cn) ∈ lw_tbl) (hg : ∀ {args : Array Value} {s : State}, (∀ w ∈ pm_tbl, w.before args s = true) → pm_F G s → (Cond.arrayOver (.object Cn)).before args s = true) (hN : n = nI N) (hb0 : N * 4 ≤ 536870912) (hN2 : N < 2 ^ 31)
    (kk : pm_Ev l G true fo kc ks M (pc + 3) lv (.ref h.length :: st) (h ++ [pm_Rf kd N (fun _ => none)]) r) : pm_Ev l G true fo (kc + 1) (ks + N) M pc lv (.int n :: st) h r := by
  subst hN
  intro p e s m args below meth c H locs cells slots mc ms ls C P S L k1 k2
  obtain ⟨hx, hb, -, ho, ht, -, -, -, -, hF, -⟩ := id C
  have e0 := P.2.2 rfl
  have hcl : (nI N).toNatClampNeg = N := nI_clamp hN2
  refine W.anew hx hb ho (ht _ w1) (hg ht hF) rfl d rfl (nI_pos hN2) (by rw [hcl]; exact hb0) (by show cells + 1 ≤ mc; omega) (by rw [hcl]; show slots + N ≤ ms; omega) fun cA kA comp f1 f2 f3 f4 => ?_
  have hcA : cA = G.2.2.1 kd := by
    obtain ⟨kA', comp', -, -, -, h8⟩ := (hF.1.2 kd _ (hkd G)).2
    exact Option.some.inj (f1.symm.trans h8)
  subst hcA
  rw [hcl, e0]
  generalize hH1 : H.push ({ cls := G.2.2.1 kd, slots := Array.replicate N .null, vm := .none } : Cell) = H1
  have z1 : H1.size = H.size + 1 := by rw [← hH1, Array.size_push]
  have e1 : H1[H.size]? = some (arrV (G.2.2.1 kd) N (fun _ => .null)) := by rw [← hH1, Array.getElem?_push_size, ← arrV_new]
  have o1 : ∀ q : Nat, q < H.size → H1[q]? = H[q]? := fun q hq => by rw [← hH1, Array.getElem?_push, if_neg (Nat.ne_of_lt hq)]
  refine kk p e s m args below meth c H1 locs (cells + 1) (slots + N) mc ms ls C (P.push ?_ z1 o1) (pm_Sg S z1 o1) L (by omega) (by omega)
  show H1[G.1 + h.length]? = some (vp_cell (G.2.2.1 kd) (N, .inr (.inr (.inr (.inr (fun j => ((fun _ => none : Nat → Option Nat) j).map fun k => G.1 + k))))))
  rw [vp_cell_q, ← e0]
  exact e1
end PMA
