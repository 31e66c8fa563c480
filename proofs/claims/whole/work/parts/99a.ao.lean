/-! ===== the same judgement, where arrays of the class's own objects may be made ===== -/
def pm_AO (U : State) : Prop := ∀ a : Array Value, (Cond.arrayOver (.object "GraphRunner$Slot")).before a U = true ∧ (Cond.arrayOver (.object "GraphRunner$Node")).before a U = true
theorem pm_AO.moved {s U : State} (hal : s.vm.Alike U.vm) (h : pm_AO s) : pm_AO U := fun a => ⟨Cond.arrayOver_alike hal (h #[]).1, Cond.arrayOver_alike hal (h #[]).2⟩
def pm_EvA (l : Launch) (G : pm_G) (fi fo : Bool) (kc ks : Nat) (M : pm_M) (pc : Nat) (lv : List (Nat × Value)) (st : List Value) (h : pm_H) (r : pm_O × pm_H) : Prop :=
  ∀ (p : Program) (e : Env) (s : State) (m : MethodId) (args : Array Value) (below : List Frame) (meth : Method) (c : Code) (H : Heap) (locs : List Loc) (cells slots mc ms : Nat) (ls : Array Slot),
    pm_AO s → pm_Cx l G M p s m args meth c → pm_Hp G fi h H → va_S (pm_A G) s.heap H locs → lv_has ls M.2.2.1 (pm_lv G lv) → cells + kc ≤ mc → slots + ks ≤ ms →
    W p l e (pm_rm M mc ms) s m args below meth c H locs cells slots (pm_Q G fo below args s mc ms r) (F0 m pc ls (st.map (pm_rv G)))
section PMAO
variable {l : Launch} {G : pm_G} {fi fo f1 : Bool} {kc ks kc1 ks1 : Nat} {M N : pm_M} {pc idx n : Nat} {lv : List (Nat × Value)} {st st0 av : List Value} {h h1 : pm_H} {r : pm_O × pm_H} {v : Option Value}
theorem pa_of (k : pm_Ev l G fi fo kc ks M pc lv st h r) : pm_EvA l G fi fo kc ks M pc lv st h r := fun p e s m args below meth c H locs cells slots mc ms ls _ => k p e s m args below meth c H locs cells slots mc ms ls
theorem pa_row {pc' : Nat} {st' : List Value} (hr : ∀ {p : Program} {e : Env} {R : Room} {s : State} {m : MethodId} {args : Array Value} {below : List Frame} {meth : Method} {c : Code} {H : Heap} {locs : List Loc} {cells slots : Nat} {Q : State → Prop} {ls : Array Slot}, p.tables.exec = Jvm.exec → c.code = M.2.1 → lv_has ls M.2.2.1 (pm_lv G lv) → s.vm.findClass M.1.cls = some m.cls → (∀ w ∈ pm_tbl, w.before args s = true) → W p l e R s m args below meth c H locs cells slots Q (F0 m pc' ls (st'.map (pm_rv G))) → W p l e R s m args below meth c H locs cells slots Q (F0 m pc ls (st.map (pm_rv G))))
    (k : pm_EvA l G fi fo kc ks M pc' lv st' h r) : pm_EvA l G fi fo kc ks M pc lv st h r :=
  fun p e s m args below meth c H locs cells slots mc ms ls A C P S L k1 k2 => hr C.1 C.2.1 L C.2.2.2.1 C.2.2.2.2.1 (k p e s m args below meth c H locs cells slots mc ms ls A C P S L k1 k2)
theorem pa_bipush {n : Int} {v : Int32} (d : decode M.2.1 pc = .ok (.bipush n, 2)) (hv : (Int8.ofInt n).toInt32 = v) (k : pm_EvA l G fi fo kc ks M (pc + 2) lv (.int v :: st) h r) : pm_EvA l G fi fo kc ks M pc lv (st) h r := pa_row (fun hx hb hl ho ht k => lv_bipush (v := v) hx hb d hv k) k
theorem pa_aload_n {n : Fin 4} {x : Nat} (d : decode M.2.1 pc = .ok (.aload_n n, 1)) (hk : pm_lk lv n = some (.ref x)) (k : pm_EvA l G fi fo kc ks M (pc + 1) lv (.ref x :: st) h r) : pm_EvA l G fi fo kc ks M pc lv (st) h r := pa_row (fun hx hb hl ho ht k => lv_aload_n hx hb d rfl (pm_lk_at hl hk) k) k
theorem pa_dup {v : Value} (d : decode M.2.1 pc = .ok (.dup, 1)) (hv : v.category = 1) (k : pm_EvA l G fi fo kc ks M (pc + 1) lv (v :: v :: st) h r) : pm_EvA l G fi fo kc ks M pc lv (v :: st) h r := pa_row (fun hx hb hl ho ht k => lv_dup hx hb d ((pm_cat G v).trans hv) k) k
theorem pa_objI {a : Nat} (hl : Cond.methodLink M.1.cls idx Lib.objectInit ∈ pm_tbl) (hi : Cond.instanceMethod Lib.objectInit ∈ pm_tbl) (hcd : Cond.code Lib.objectInit ⟨#[0xb1]⟩ 1 none ∈ pm_tbl) (d : decode M.2.1 pc = .ok (.invokespecial idx, 3)) (hfr : 1 ≤ M.2.2.2.2.2.1) (hlo : (st.map fun v => v.category).sum + 12 ≤ M.2.2.2.2.2.2)
    (kk : pm_EvA l G fi fo kc ks M (pc + 3) lv st h r) : pm_EvA l G fi fo kc ks M pc lv (.ref a :: st) h r := by
  intro p e s m args below meth c H locs cells slots mc ms ls A C P S L k1 k2
  obtain ⟨hx, hb, hml, ho, ht, -⟩ := id C
  refine W.objInit hx hb ho (ht _ hl) (ht _ hi) (ht _ hcd) rfl (by rw [hml]; exact L.1) rfl d hfr ?_ (kk p e s m args below meth c H locs cells slots mc ms ls A C P S L k1 k2)
  have e1 : ((fun v : Value => v.category) ∘ pm_rv G) = fun v => v.category := by funext v; exact pm_cat G v
  show 2 * 0 + ((st.map (pm_rv G)).map fun v => v.category).sum + 12 ≤ M.2.2.2.2.2.2
  rw [List.map_map, e1]
  omega
theorem pa_putF {ci k a : Nat} {ty : FieldType} {fs : List Value} {v : Value} (fl : pm_FF M.1.cls idx ci k ty) (hM : M.1.name = "<init>") (d : decode M.2.1 pc = .ok (.putfield idx, 3)) (he : h[a]? = some (.inr (ci, fs))) (hl : k < fs.length) (hn : narrow ty (pm_rv G v) = pm_rv G v) (hf : fits ty (pm_rv G v) = true) (kk : pm_EvA l G fi fo kc ks M (pc + 3) lv st (h.set a (.inr (ci, fs.set k v))) r) : pm_EvA l G fi fo kc ks M pc lv (v :: .ref a :: st) h r := by
  intro p e s m args below meth c H locs cells slots mc ms ls A C P S L k1 k2
  obtain ⟨Cn, T, N, t0, hc, hk, hin, hty, hnm, hd, hfin, hdecl, hlk⟩ := fl
  obtain ⟨hx, hb, -, ho, hts, -, -, -, hnam, hF, -⟩ := id C
  have hK := hF.1
  have hap := va_apart (own := M.1.cls) hts hin t0 hty hnm hK hc
  have he' := pm_at (G := G) he
  obtain ⟨r', h1, cell, q1, q2, q3, q4⟩ := P.1 a _ he'
  have hr : r' = (Cn, T, N) := Option.some.inj (h1.symm.trans hc)
  subst hr
  obtain ⟨hS, hfc, kC, hkC, hkind⟩ := hK.1 ci _ hc
  obtain ⟨cf, kf, f0, f, hi, hsl⟩ := hS k hk
  have hlay := hts _ (hin _ (u_in_lay hk))
  unfold u_lay at hlay
  rw [if_pos hfin] at hlay
  have hst := (u_facts hfc hkC (u_lays hts hin hk) hi).1
  have hcf : m.cls = cf := by
    obtain ⟨_, _, c', _, _, _, -, -, hf', -, -, -, hown2, -⟩ := Cond.laysFinal_spec hlay
    have e1 : c' = cf := by have := hi.symm.trans hf'; simp at this; exact this.1.symm
    rw [hdecl] at hown2
    rw [← e1]; exact Option.some.inj (ho.symm.trans hown2)
  have h6 := u_fits hfc hkC hkind (Or.inr hlay) hi hd hn hf
  have hl' : k < (fs.map (pm_rv G)).length := by rw [List.length_map]; exact hl
  refine W.putFinK hx hb ho (hts _ hlk) hi hst hcf (hnam.trans hM) (by rw [q2]; exact h6) q1 q3 (by rw [hsl]; exact k2_hasslot (q4 k hk)) rfl rfl d fun H' e1 e2 e3 => ?_
  rw [hsl] at e1
  refine kk p e s m args below meth c H' _ cells slots mc ms ls A C (P.set he ?_ e2 e3) (S.put e2 e3 (Nat.le_add_right _ _)) L k1 k2
  refine ⟨_, hc, ?_⟩
  exact t_OB.to (V := updV (vp_V (fs.map (pm_rv G))) k (pm_rv G v)) ⟨_, e1, q2, q3, t_set q4 hap hk _⟩ (fun j _ => by rw [vp_updV_set hl' _ j]; show _ = vp_V ((fs.set k v).map (pm_rv G)) j; rw [List.map_set])
theorem pa_new {ci N : Nat} {Cn : String} {T : u_T} {t0 : Nat → FieldType} {fs : List Value} (d : decode M.2.1 pc = .ok (.new idx, 3)) (hcl : pm_cl[ci]? = some (Cn, T, N)) (hin : ∀ w ∈ u_ws Cn T N, w ∈ pm_tbl) (hty : ∀ k, k < N → parseFieldDescriptor (T k).2.2.1 = some (t0 k)) (w1 : Cond.classLink M.1.cls idx Cn ∈ pm_tbl) (w2 : Cond.instantiable Cn N ∈ pm_tbl) (w3 : Cond.initialized Cn ∈ pm_tbl)
    (hfs : ∀ j, j < N → defaultValue (t0 j) = vp_V (fs.map (pm_rv G)) j) (kk : pm_EvA l G true fo kc ks M (pc + 3) lv (.ref h.length :: st) (h ++ [pm_Ob ci fs]) r) : pm_EvA l G true fo (kc + 1) (ks + N) M pc lv st h r := by
  intro p e s m args below meth c H locs cells slots mc ms ls A C P S L k1 k2
  obtain ⟨hx, hb, -, ho, ht, -, -, -, -, hF, -⟩ := id C
  have hKn := hF.1.1 ci _ hcl
  have e0 := P.2.2 rfl
  refine W.newcK hx hb ho (ht _ w1) (ht _ w2) (ht _ w3) rfl d (by show cells + 1 ≤ mc; omega) (by show slots + N ≤ ms; omega) hKn.2.1 e0 fun H1 kC hkC e1 z1 o1 => ?_
  refine kk p e s m args below meth c H1 locs (cells + 1) (slots + N) mc ms ls A C (P.push ⟨_, hcl, (u_born t0 ht hin hKn hkC e1 hty).to hfs⟩ (by rw [z1, e0]) (by rw [e0]; exact o1)) (pm_Sg S (by rw [z1, e0]) (by rw [e0]; exact o1)) L (by omega) (by omega)
theorem pa_anew {kd N : Nat} {n : Int32} {Cn : String} (d : decode M.2.1 pc = .ok (.anewarray idx, 3)) (hkd : ∀ G : pm_G, (pm_tys G)[kd]? = some (G.2.2.1 kd, .object Cn)) (w1 : Cond.classLink M.1.cls idx Cn ∈ pm_tbl) (hg : ∀ {s : State}, pm_AO s → ∀ args, (Cond.arrayOver (.object Cn)).before args s = true) (hN : n = nI N) (hb0 : N * 4 ≤ 536870912) (hN2 : N < 2 ^ 31)
    (kk : pm_EvA l G true fo kc ks M (pc + 3) lv (.ref h.length :: st) (h ++ [pm_Rf kd N (fun _ => none)]) r) : pm_EvA l G true fo (kc + 1) (ks + N) M pc lv (.int n :: st) h r := by
  subst hN
  intro p e s m args below meth c H locs cells slots mc ms ls A C P S L k1 k2
  obtain ⟨hx, hb, -, ho, ht, -, -, -, -, hF, -⟩ := id C
  have e0 := P.2.2 rfl
  have hcl : (nI N).toNatClampNeg = N := nI_clamp hN2
  refine W.anew hx hb ho (ht _ w1) (hg A args) rfl d rfl (nI_pos hN2) (by rw [hcl]; exact hb0) (by show cells + 1 ≤ mc; omega) (by rw [hcl]; show slots + N ≤ ms; omega) fun cA kA comp f1 f2 f3 f4 => ?_
  have hcA : cA = G.2.2.1 kd := by
    obtain ⟨kA', comp', -, -, -, h8⟩ := (hF.1.2 kd _ (hkd G)).2
    exact Option.some.inj (f1.symm.trans h8)
  subst hcA
  rw [hcl, e0]
  generalize hH1 : H.push ({ cls := G.2.2.1 kd, slots := Array.replicate N .null, vm := .none } : Cell) = H1
  have z1 : H1.size = H.size + 1 := by rw [← hH1, Array.size_push]
  have e1 : H1[H.size]? = some (arrV (G.2.2.1 kd) N (fun _ => .null)) := by rw [← hH1, Array.getElem?_push_size, ← arrV_new]
  have o1 : ∀ q : Nat, q < H.size → H1[q]? = H[q]? := fun q hq => by rw [← hH1, Array.getElem?_push, if_neg (Nat.ne_of_lt hq)]
  refine kk p e s m args below meth c H1 locs (cells + 1) (slots + N) mc ms ls A C (P.push ?_ z1 o1) (pm_Sg S z1 o1) L (by omega) (by omega)
  show H1[G.1 + h.length]? = some (vp_cell (G.2.2.1 kd) (N, .inr (.inr (.inr (.inr (fun j => ((fun _ => none : Nat → Option Nat) j).map fun k => G.1 + k))))))
  rw [vp_cell_q, ← e0]
  exact e1
def pm_PcA (G : pm_G) (fi : Bool) (av : List Value) (h : pm_H) : Array Value → State → Prop := fun a U => pm_Pc G fi av h a U ∧ pm_AO U
theorem pm_blindA {G : pm_G} {fi : Bool} {av : List Value} {h : pm_H} : FrameBlind (pm_PcA G fi av h) := fun a U g mk q => ⟨⟨q.1.1, q.1.2.1.calling g mk a, q.1.2.2⟩, pm_AO.moved (s := U) (U := U.calling g mk a) (Vm.Alike.refl U.vm) q.2⟩
def pm_EnA (l : Launch) (G : pm_G) (fi fo : Bool) (kc ks : Nat) (M : pm_M) (av : List Value) (h : pm_H) (r : pm_O × pm_H) : Prop :=
  ∀ mc ms, kc ≤ mc → ks ≤ ms → MetFree l M.1 (headSpec (pm_wsM M) (pm_rm M mc ms)) (pm_PcA G fi av h) (fun _ _ _ _ _ => True) (pm_End G fo mc ms r)
theorem pm_EnA.of (hl : l.stackTraces = false) (hy : plainName M.1.cls = true) (hn : (lg_sl av).length ≤ M.2.2.1)
    (k : pm_EvA l G fi fo kc ks M 0 (lv_args 0 av) [] h r) : pm_EnA l G fi fo kc ks M av h r := by
  intro mc ms hc hs
  have key : ∀ (args : Array Value) (s : State) (m : MethodId), (headSpec (pm_wsM M) (pm_rm M mc ms)).pre.before args s = true → s.methodNamed? M.1 = some m → ∃ meth c, s.vm.method? m = some meth ∧ meth.code = some c ∧ c.code = M.2.1 ∧ c.maxLocals = M.2.2.1 ∧ meth.sig.returnType = M.2.2.2.1 ∧ meth.locks = false ∧ c.exceptionTable.toList = tableOf M.2.2.2.2.1 := by
    intro args s m hp hn
    have h0 := atoms_spec (ws := pm_wsM M) hp _ List.mem_cons_self
    by_cases he : M.2.2.2.2.1 = []
    · rw [if_pos he] at h0
      obtain ⟨meth, c, h1, h2, h3, h4, h5, h6, h7, -⟩ := Cond.code_spec hn h0
      refine ⟨meth, c, h1, h2, h3, h4, h5, h6, ?_⟩
      rw [he, Array.isEmpty_iff.mp h7]
      rfl
    · rw [if_neg he] at h0
      obtain ⟨m9, meth, c, hn9, h1, h2, h3, h4, h7, h5, h6, -⟩ := Cond.codeWith_spec h0
      cases hn.symm.trans hn9
      refine ⟨meth, c, h1, h2, h3, h4, h5, h6, ?_⟩
      rw [← h7, table_eq]
  refine MetFree.of_bodyS (code := M.2.1) (maxLocals := M.2.2.1) (ret := M.2.2.2.1) hy ?_ ?_
  · intro args s m hp hn
    obtain ⟨meth, c, h1, h2, h3, h4, h5, h6, -⟩ := key args s m hp hn
    exact ⟨meth, c, h1, h2, h3, h4, h5, h6⟩
  · intro p e s m args below meth c s₁ B hml hP _
    obtain ⟨⟨rfl, hF, hH⟩, hA⟩ := hP
    have hh0 : s₁.heap = s.heap := by rw [B.state]; rfl
    obtain ⟨meth9, c9, h1, h2, -, -, -, -, h7⟩ := key _ s m B.pre B.named
    cases Option.some.inj (h1.symm.trans B.method)
    cases Option.some.inj (h2.symm.trans (Stand.of_body B).code)
    have hl0 := lv_entry (av.map (pm_rv G)) (n := M.2.2.1) (by rw [pm_sl]; exact hn)
    have hC : pm_Cx l G M p s m (av.map (pm_rv G)).toArray meth c := ⟨B.exec, B.bytes, hml, findClass_of_methodNamed B.named, fun w hw => atoms_spec (ws := pm_wsM M) B.pre _ (List.mem_cons_of_mem _ hw), B.returns, B.notSynchronized, h7, (name_of_methodNamed B.named B.method).1, hF, hl⟩
    rw [pm_args] at hl0
    have K := k p e s m _ below meth c s.heap [] 0 0 mc ms _ hA hC hH va_S.rf hl0 (by omega) (by omega)
    rw [List.map_nil, ← lg_entry_eq] at K
    obtain ⟨t, a1, o, b1, b2, b3, b4⟩ := K s₁ hh0 (Stand.of_body B)
    exact ⟨t, o, a1, b1, b2, b3, b4⟩
theorem pm_EnA.met {h1 : pm_H} {v : Option Value} (k : pm_EnA l G fi fo kc ks M av h (.inl v, h1)) {mc ms : Nat} (hc : kc ≤ mc) (hs : ks ≤ ms) :
    Met l M.1 (pm_wsM M) (pm_rm M mc ms) (pm_PcA G fi av h) (pm_Qc G fo (.inl v, h1)) mc ms (pm_A G) := by
  intro p e ha hcs hk s m args below hf happ hP hT
  obtain ⟨n, o, q1, q2, q3, q4, q5, L, q6, q7⟩ := k mc ms hc hs p e ha hcs hk s m args below hf happ hP hT
  exact ⟨n, o, q1, q2, q3, q4, L, ⟨⟨_, q4.1⟩, q5, q6⟩, q7⟩
theorem pm_preA {p : Program} {s : State} {m : MethodId} {args : Array Value} {meth : Method} {c : Code} {H : Heap} {locs : List Loc} (A : pm_AO s) (C : pm_Cx l G M p s m args meth c) (P : pm_Hp G fi h H) (S : va_S (pm_A G) s.heap H locs) : PreS s H (pm_PcA G fi av h) (av.map (pm_rv G)) := ⟨pm_blindA, fun U hU hW => ⟨⟨rfl, C.2.2.2.2.2.2.2.2.2.1.moved hW S hU, by rw [hU]; exact P⟩, A.moved hW.alike⟩⟩
theorem pa_callI {b : Nat} (cb : pm_CB M N n) (hret : N.2.2.2.1 = none) (hnm : N.1.name = "<init>") (hl : Cond.methodLink M.1.cls idx N.1 ∈ pm_tbl) (hi : Cond.instanceMethod N.1 ∈ pm_tbl) (d : decode M.2.1 pc = .ok (.invokespecial idx, 3)) (en : pm_EnA l G fi f1 kc1 ks1 N (.ref b :: av) h (.inl v, h1)) (hn : av.length = n) (hst : st0 = av.reverse ++ .ref b :: st) (hw : (st.map fun v => v.category).sum ≤ 8)
    (kk : pm_Ev l G f1 fo kc ks M (pc + 3) lv (v.toList ++ st) h1 r) : pm_EvA l G fi fo (kc1 + kc) (ks1 + ks) M pc lv st0 h r := by
  obtain ⟨b0, b1, b2, b3, b4, b5, b6⟩ := cb
  intro p e s m args below meth c H locs cells slots mc ms ls A C P S L k1 k2
  obtain ⟨hx, hb, hml, ho, ht, -⟩ := id C
  have hM := en.met (Nat.le_refl _) (Nat.le_refl _)
  rw [pm_wsM0 b0] at hM
  rw [hret] at b1 hM
  refine pm_go (va_runI (n := n) (b := G.1 + b) (As := av.map (pm_rv G)) (rest := st.map (pm_rv G)) ⟨hx, hb, hml, ho, ht⟩ hM ⟨⟨rfl, rfl, b5, b6, pm_pay ht b1, List.mem_cons_self, ht _ b1, ht _ b2, b3, pm_len b4, ht _ hl⟩, hnm, ht _ hi⟩ (pm_preA (av := .ref b :: av) A C P S) rfl (by rw [List.length_map]; exact hn) L.1 (pm_stkV hst) (pm_cat8 hw) d ⟨by show cells + kc1 ≤ mc; omega, by show slots + ks1 ≤ ms; omega⟩) S fun H1 locs1 P1 S1 => ?_
  rw [pm_back]
  exact kk p e s m args below meth c H1 locs1 _ _ mc ms ls C P1 S1 L (by omega) (by omega)
end PMAO
/-! ===== a heap that grows ===== -/
theorem ap_len {h : pm_H} {c : va_E} {N : Nat} (hl : h.length = N) : (h ++ [c]).length = N + 1 := by rw [List.length_append, hl]; rfl
theorem ap_new {h : pm_H} {c : va_E} {N : Nat} (hl : h.length = N) : (h ++ [c])[N]? = some c := by rw [← hl]; simp
theorem ap_fr {h : pm_H} {c : va_E} {N k : Nat} (hl : h.length = N) (hk : k < N) : (h ++ [c])[k]? = h[k]? := List.getElem?_append_left (by omega)
theorem ap_old {h : pm_H} {c e : va_E} {k : Nat} (hk : h[k]? = some e) : (h ++ [c])[k]? = some e := by
  rw [List.getElem?_append_left (List.getElem?_eq_some_iff.mp hk).1]; exact hk
theorem st_len {h : pm_H} {c : va_E} {a N : Nat} (hl : h.length = N) : (h.set a c).length = N := by rw [List.length_set]; exact hl
