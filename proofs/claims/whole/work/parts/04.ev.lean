/-! ===== what stands at a method's entry; the judgement; the contract ===== -/
def pm_old (G : pm_G) (U : State) (H : Heap) : Prop :=
  va_X (G.2.2.2.1 0) G.2.2.2.2.1 G.2.2.2.2.2 U H ∧ va_Z "GraphRunner" "ARGUMENT_COUNTS" "[I" (.ref (G.2.2.2.1 1)) (pm_A G) U H ∧ va_T .int (G.2.2.2.1 1) 19 (fun j => .int (pm_ac j)) (pm_A G) U H ∧
  vx_Zq Bundle.tN "UNASSIGNED_STACK" Bundle.steD (pm_A G) U H ∧ vx_Zq Bundle.tN "SUPPRESSED_SENTINEL" Bundle.listD (pm_A G) U H
def pm_F (G : pm_G) (U : State) : Prop :=
  va_K G.2.1 pm_cl (pm_tys G) U ∧ (∀ w ∈ pm_nst, va_Nw w U) ∧ (∀ q ∈ pm_ncs, va_Nc q.1 q.2 U) ∧ G.1 ≤ U.heap.size ∧ G.2.2.2.1 0 < G.1 ∧ pm_old G U U.heap
theorem pm_nst_warm {w : Cond} (hw : w ∈ pm_nst) {s U : State} (hW : s.WarmedH U.vm) (h : va_Nw w s) : va_Nw w U := by
  have hg : pm_isN w = true := (List.mem_filter.mp hw).2
  cases w <;> simp only [pm_isN, Bool.false_eq_true] at hg
  case fieldLinkNest => exact va_Nw.warmF hW h
  case methodLinkNest => exact va_Nw.warmM hW h
  case castable => exact va_Nw.warmC hW h
theorem pm_nst_on {w : Cond} (hw : w ∈ pm_nst) : w.onTables = true := by
  have hg : pm_isN w = true := (List.mem_filter.mp hw).2
  cases w <;> simp only [pm_isN, Bool.false_eq_true] at hg <;> rfl
/-- it holds as well further on in the walk -/
theorem pm_F.moved {G : pm_G} {s U : State} {H : Heap} {locs : List Loc} (h : pm_F G s) (hW : s.WarmedH U.vm) (hS : va_S (pm_A G) s.heap H locs) (hU : U.heap = H) : pm_F G U := by
  obtain ⟨hK, hN, hC, hz, hb, hX, hZ, hT, hu, hn⟩ := h
  have hb0 : ¬ pm_A G (G.2.2.2.1 0) := Nat.not_le.mpr hb
  subst hU
  refine ⟨va_K.moved hW.alike hK, fun w hw => pm_nst_warm hw hW (hN w hw), fun q hq => va_Nc.moved hW.alike (hC q hq), Nat.le_trans hz hS.1, hb, va_X.moved hW.alike (hX.kept ?_), va_Z.moved hW.alike (hZ.kept hS.2.1), va_T.moved hW.alike (hT.kept hS.2.1), vx_Zq.moved hW.alike (hu.kept hS.2.1), vx_Zq.moved hW.alike (hn.kept hS.2.1)⟩
  exact hS.2.1 _ (Nat.lt_of_lt_of_le hb hz) hb0
theorem pm_F.calling {G : pm_G} {U : State} (h : pm_F G U) (g : JFrame) (mk : MethodId) (a : Array Value) : pm_F G (U.calling g mk a) := by
  obtain ⟨hK, hN, hC, hz, hb, hX, hZ, hT, hu, hn⟩ := h
  have r := Vm.Alike.refl U.vm
  exact ⟨va_K.moved (u := U) (U := U.calling g mk a) r hK, fun w hw => va_Nw.same (pm_nst_on hw) (u := U) (U := U.calling g mk a) rfl (hN w hw), fun q hq => va_Nc.moved (u := U) (U := U.calling g mk a) r (hC q hq), hz, hb, va_X.moved (u := U) (U := U.calling g mk a) r hX, va_Z.moved (u := U) (U := U.calling g mk a) r hZ, va_T.moved (u := U) (U := U.calling g mk a) r hT, vx_Zq.moved (u := U) (U := U.calling g mk a) r hu, vx_Zq.moved (u := U) (U := U.calling g mk a) r hn⟩
/-- the heap holds h -/
def pm_Hp (G : pm_G) (f : Bool) (h : pm_H) (H : Heap) : Prop := va_P G.2.1 pm_cl (pm_ws G h) H ∧ G.1 + h.length ≤ H.size ∧ (f = true → H.size = G.1 + h.length)
def pm_Cx (l : Launch) (G : pm_G) (M : pm_M) (p : Program) (s : State) (m : MethodId) (args : Array Value) (meth : Method) (c : Code) : Prop :=
  p.tables.exec = Jvm.exec ∧ c.code = M.2.1 ∧ c.maxLocals = M.2.2.1 ∧ s.vm.findClass M.1.cls = some m.cls ∧ (∀ w ∈ pm_tbl, w.before args s = true) ∧ meth.sig.returnType = M.2.2.2.1 ∧ meth.locks = false ∧ c.exceptionTable.toList = tableOf M.2.2.2.2.1 ∧ meth.name = M.1.name ∧ pm_F G s ∧ l.stackTraces = false
def pm_rm (M : pm_M) (mc ms : Nat) : Room := { frames := M.2.2.2.2.2.1, cells := mc, slots := ms, locals := M.2.2.2.2.2.2 }
/-- how it ends -/
def pm_oc (G : pm_G) (o : pm_O) (oc : Outcome) (s t : State) : Prop := match o with
  | .inl v => oc = .returned (v.map (pm_rv G))
  | .inr E => ∃ (q : Addr) (ce : Cell), oc = .threw q ∧ t.heap[q]? = some ce ∧ ce.vm = .none ∧ s.vm.findClass E = some ce.cls
def pm_Qc (G : pm_G) (fo : Bool) (r : pm_O × pm_H) : Array Value → State → Outcome → State → Prop := fun _ s oc t =>
  pm_oc G r.1 oc s t ∧ pm_Hp G fo r.2 t.heap ∧ va_F (pm_A G) s t
def pm_Q (G : pm_G) (fo : Bool) (below : List Frame) (a : Array Value) (s : State) (mc ms : Nat) (r : pm_O × pm_H) : State → Prop := fun t =>
  ∃ oc, t.status = .running ∧ Ended t below oc ∧ pm_Qc G fo r a s oc t ∧ s.WarmedH t.vm ∧ ∃ L, s.sameButNew ({ t with vm := s.vm } : State) L mc ms ∧ ∀ q ∈ L, pm_A G q.base
/-- from pc, with these locals and operands and this heap, the body comes to the end r; at most kc cells of ks slots are made -/
def pm_Ev (l : Launch) (G : pm_G) (fi fo : Bool) (kc ks : Nat) (M : pm_M) (pc : Nat) (lv : List (Nat × Value)) (st : List Value) (h : pm_H) (r : pm_O × pm_H) : Prop :=
  ∀ (p : Program) (e : Env) (s : State) (m : MethodId) (args : Array Value) (below : List Frame) (meth : Method) (c : Code) (H : Heap) (locs : List Loc) (cells slots mc ms : Nat) (ls : Array Slot),
    pm_Cx l G M p s m args meth c → pm_Hp G fi h H → va_S (pm_A G) s.heap H locs → lv_has ls M.2.2.1 (pm_lv G lv) → cells + kc ≤ mc → slots + ks ≤ ms →
    W p l e (pm_rm M mc ms) s m args below meth c H locs cells slots (pm_Q G fo below args s mc ms r) (F0 m pc ls (st.map (pm_rv G)))
def pm_Pc (G : pm_G) (fi : Bool) (av : List Value) (h : pm_H) : Array Value → State → Prop := fun a U => a = (av.map (pm_rv G)).toArray ∧ pm_F G U ∧ pm_Hp G fi h U.heap
def pm_wsM (M : pm_M) : List Cond := (if M.2.2.2.2.1 = [] then Cond.code M.1 M.2.1 M.2.2.1 M.2.2.2.1 else Cond.codeWith M.1 M.2.1 M.2.2.1 M.2.2.2.1 M.2.2.2.2.1) :: pm_tbl
def pm_End (G : pm_G) (fo : Bool) (mc ms : Nat) (r : pm_O × pm_H) : Array Value → State → Outcome → State → Prop := fun a s oc t =>
  pm_Qc G fo r a s oc t ∧ s.WarmedH t.vm ∧ ∃ L, s.sameButNew ({ t with vm := s.vm } : State) L mc ms ∧ ∀ q ∈ L, pm_A G q.base
/-- the contract of M: called with av in the heap h, it ends with r -/
def pm_En (l : Launch) (G : pm_G) (fi fo : Bool) (kc ks : Nat) (M : pm_M) (av : List Value) (h : pm_H) (r : pm_O × pm_H) : Prop :=
  ∀ mc ms, kc ≤ mc → ks ≤ ms → MetFree l M.1 (headSpec (pm_wsM M) (pm_rm M mc ms)) (pm_Pc G fi av h) (fun _ _ _ _ _ => True) (pm_End G fo mc ms r)
theorem pm_blind {G : pm_G} {fi : Bool} {av : List Value} {h : pm_H} : FrameBlind (pm_Pc G fi av h) := fun a U g mk q => ⟨q.1, q.2.1.calling g mk a, q.2.2⟩
/-- a contract out of its body -/
theorem pm_En.of {l : Launch} {G : pm_G} {fi fo : Bool} {kc ks : Nat} {M : pm_M} {av : List Value} {h : pm_H} {r : pm_O × pm_H} (hl : l.stackTraces = false) (hy : plainName M.1.cls = true) (hn : (lg_sl av).length ≤ M.2.2.1)
    (k : pm_Ev l G fi fo kc ks M 0 (lv_args 0 av) [] h r) : pm_En l G fi fo kc ks M av h r := by
  intro mc ms hc hs
  have key : ∀ (args : Array Value) (s : State) (m : MethodId), (headSpec (pm_wsM M) (pm_rm M mc ms)).pre.before args s = true → s.methodNamed? M.1 = some m → ∃ meth c, s.vm.method? m = some meth ∧ meth.code = some c ∧ c.code = M.2.1 ∧ c.maxLocals = M.2.2.1 ∧ meth.sig.returnType = M.2.2.2.1 ∧ meth.locks = false ∧ c.exceptionTable.toList = tableOf M.2.2.2.2.1 := by
    intro args s m hp hn
    have h0 := atoms_spec (ws := pm_wsM M) hp _ List.mem_cons_self
    by_cases he : M.2.2.2.2.1 = []
    · rw [if_pos he] at h0
      obtain ⟨meth, c, h1, h2, h3, h4, h5, h6, h7, -⟩ := Cond.code_spec hn h0
      refine ⟨meth, c, h1, h2, h3, h4, h5, h6, ?_⟩
      rw [he, Array.isEmpty_iff.mp h7]
      rfl
    · rw [if_neg he] at h0
      obtain ⟨m9, meth, c, hn9, h1, h2, h3, h4, h7, h5, h6, -⟩ := Cond.codeWith_spec h0
      cases hn.symm.trans hn9
      refine ⟨meth, c, h1, h2, h3, h4, h5, h6, ?_⟩
      rw [← h7, table_eq]
  refine MetFree.of_bodyS (code := M.2.1) (maxLocals := M.2.2.1) (ret := M.2.2.2.1) hy ?_ ?_
  · intro args s m hp hn
    obtain ⟨meth, c, h1, h2, h3, h4, h5, h6, -⟩ := key args s m hp hn
    exact ⟨meth, c, h1, h2, h3, h4, h5, h6⟩
  · intro p e s m args below meth c s₁ B hml hP _
    obtain ⟨rfl, hF, hH⟩ := hP
    have hh0 : s₁.heap = s.heap := by rw [B.state]; rfl
    obtain ⟨meth9, c9, h1, h2, -, -, -, -, h7⟩ := key _ s m B.pre B.named
    cases Option.some.inj (h1.symm.trans B.method)
    cases Option.some.inj (h2.symm.trans (Stand.of_body B).code)
    have hl0 := lv_entry (av.map (pm_rv G)) (n := M.2.2.1) (by rw [pm_sl]; exact hn)
    have hC : pm_Cx l G M p s m (av.map (pm_rv G)).toArray meth c := ⟨B.exec, B.bytes, hml, findClass_of_methodNamed B.named, fun w hw => atoms_spec (ws := pm_wsM M) B.pre _ (List.mem_cons_of_mem _ hw), B.returns, B.notSynchronized, h7, (name_of_methodNamed B.named B.method).1, hF, hl⟩
    rw [pm_args] at hl0
    have K := k p e s m _ below meth c s.heap [] 0 0 mc ms _ hC hH va_S.rf hl0 (by omega) (by omega)
    rw [List.map_nil, ← lg_entry_eq] at K
    obtain ⟨t, a1, o, b1, b2, b3, b4⟩ := K s₁ hh0 (Stand.of_body B)
    exact ⟨t, o, a1, b1, b2, b3, b4⟩
/-- as the kit's own contract, where it returns -/
theorem pm_En.met {l : Launch} {G : pm_G} {fi fo : Bool} {kc ks : Nat} {M : pm_M} {av : List Value} {h h1 : pm_H} {v : Option Value} (k : pm_En l G fi fo kc ks M av h (.inl v, h1)) {mc ms : Nat} (hc : kc ≤ mc) (hs : ks ≤ ms) :
    Met l M.1 (pm_wsM M) (pm_rm M mc ms) (pm_Pc G fi av h) (pm_Qc G fo (.inl v, h1)) mc ms (pm_A G) := by
  intro p e ha hcs hk s m args below hf happ hP hT
  obtain ⟨n, o, q1, q2, q3, q4, q5, L, q6, q7⟩ := k mc ms hc hs p e ha hcs hk s m args below hf happ hP hT
  exact ⟨n, o, q1, q2, q3, q4, L, ⟨⟨_, q4.1⟩, q5, q6⟩, q7⟩
/-- as the kit's own contract, where it throws -/
theorem pm_En.metX {l : Launch} {G : pm_G} {fi fo : Bool} {kc ks : Nat} {M : pm_M} {av : List Value} {h h1 : pm_H} {E : String} (k : pm_En l G fi fo kc ks M av h (.inr E, h1)) {mc ms : Nat} (hc : kc ≤ mc) (hs : ks ≤ ms) :
    vx_Met l M.1 (pm_wsM M) (pm_rm M mc ms) (pm_Pc G fi av h) (fun _ _ _ _ => False) (fun E' st t => E' = E ∧ pm_Hp G fo h1 t.heap ∧ va_F (pm_A G) st t) mc ms (pm_A G) := by
  intro p e ha hcs hk s m args below hf happ hP hT
  obtain ⟨n, o, q1, q2, q3, ⟨⟨q, ce, rfl, g2, g3, g4⟩, g5, g6⟩, q5, L, q6, q7⟩ := k mc ms hc hs p e ha hcs hk s m args below hf happ hP hT
  exact ⟨n, .threw q, q1, q2, q3, Or.inr ⟨q, rfl, E, ce, L, ⟨rfl, g5, g6⟩, g2, g3, g4, q5, q6, q7⟩⟩
