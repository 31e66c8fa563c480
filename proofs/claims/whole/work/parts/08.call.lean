/-! ===== calls, throws, catches ===== -/
theorem pm_tg {w : Cond} (h : w ∈ pm_tbl) : (w.onTables && w.keeps) = true ∨ ∃ ty, w = .arrayClass ty := good_of_word (List.mem_filter.mp h).2
/-- what a call of N out of M asks of the words and of the room -/
def pm_CB (M N : pm_M) (n : Nat) : Prop := N.2.2.2.2.1 = [] ∧ Cond.code N.1 N.2.1 N.2.2.1 N.2.2.2.1 ∈ pm_tbl ∧ Cond.initialized N.1.cls ∈ pm_tbl ∧ (N.1.cls ≠ "java/lang/invoke/MethodHandle" ∧ N.1.cls ≠ "java/lang/invoke/VarHandle") ∧ (parseMethodDescriptor N.1.desc).map (fun d => d.parameters.length) = some n ∧ N.2.2.2.2.2.1 + 1 ≤ M.2.2.2.2.2.1 ∧ 8 + (N.2.2.1 + 11) + N.2.2.2.2.2.2 ≤ M.2.2.2.2.2.2
section PMC
variable {l : Launch} {G : pm_G} {fi fo f1 : Bool} {kc ks kc1 ks1 : Nat} {M N : pm_M} {pc idx n : Nat} {lv : List (Nat × Value)} {st st0 av : List Value} {h h1 : pm_H} {r : pm_O × pm_H} {v : Option Value}
variable {p : Program} {e : Env} {s : State} {m : MethodId} {args : Array Value} {below : List Frame} {meth : Method} {c : Code} {H : Heap} {locs : List Loc} {cells slots mc ms : Nat} {ls : Array Slot} {Q : State → Prop}
theorem pm_wsM0 (hN : N.2.2.2.2.1 = []) : pm_wsM N = Cond.code N.1 N.2.1 N.2.2.1 N.2.2.2.1 :: pm_tbl := by unfold pm_wsM; rw [if_pos hN]
theorem pm_pay (ht : ∀ w ∈ pm_tbl, w.before args s = true) {w0 : Cond} (h0 : w0 ∈ pm_tbl) : ∀ w ∈ w0 :: pm_tbl, ∀ (a' : Array Value) (U : State), s.WarmedH U.vm → w.before a' U = true := by
  intro w hw a' U hW
  have hw' : w ∈ pm_tbl := by
    rcases List.mem_cons.mp hw with rfl | q
    · exact h0
    · exact q
  exact word_at hW (pm_tg hw') (ht w hw')
theorem pm_len {y : MethodName} (hd : (parseMethodDescriptor y.desc).map (fun d => d.parameters.length) = some n) : ∀ sig, parseMethodDescriptor y.desc = some sig → n = sig.parameters.length := by
  intro sig q
  rw [q] at hd
  exact (Option.some.inj hd).symm
theorem pm_cat8 (hw : (st.map fun v => v.category).sum ≤ 8) : 2 * (F0 m pc ls st0).monitorRoom + ((st.map (pm_rv G)).map fun v => v.category).sum ≤ 8 := by
  refine lv_room ?_
  rw [List.map_map]
  have e1 : ((fun v : Value => v.category) ∘ pm_rv G) = fun v => v.category := by funext v; exact pm_cat G v
  rw [e1]
  exact hw
theorem pm_go {R : Room} {rest st9 : List Value} {a : Array Value} (hr : va_Run p l e R s m args below meth c H locs cells slots mc ms (F0 m pc ls st9) rest (pm_Qc G f1 (.inl v, h1) a) (pm_A G)) (S : va_S (pm_A G) s.heap H locs)
    (kk : ∀ (H1 : Heap) (locs1 : List Loc), pm_Hp G f1 h1 H1 → va_S (pm_A G) s.heap H1 locs1 → W p l e R s m args below meth c H1 locs1 (cells + mc) (slots + ms) Q (F0 m (pc + 3) ls ((v.map (pm_rv G)).toList ++ rest))) : W p l e R s m args below meth c H locs cells slots Q (F0 m pc ls st9) := by
  intro T hT X
  obtain ⟨v', st₀, t, T', L, h0, X', hL, e1, e2, ⟨hv, hP, hz, hk⟩, go⟩ := hr T hT X
  have hv : Outcome.returned v' = .returned (v.map (pm_rv G)) := hv
  cases hv
  rw [h0] at hz hk
  obtain ⟨t2, a1, b1⟩ := kk T'.heap (locs ++ L) (by rw [e1]; exact hP) ⟨Nat.le_trans S.1 (by rw [e1]; exact hz), fun q g1 g2 => by rw [e1, hk q (Nat.lt_of_lt_of_le g1 S.1) g2]; exact S.2.1 q g1 g2, fun q hq => by
    rcases List.mem_append.mp hq with g | g
    · exact S.2.2 q g
    · exact hL q g⟩ T' rfl X'
  exact ⟨t2, go t2 a1, b1⟩
theorem pm_pre (C : pm_Cx l G M p s m args meth c) (P : pm_Hp G fi h H) (S : va_S (pm_A G) s.heap H locs) : PreS s H (pm_Pc G fi av h) (av.map (pm_rv G)) := ⟨pm_blind, fun U hU hW => ⟨rfl, C.2.2.2.2.2.2.2.2.2.1.moved hW S hU, by rw [hU]; exact P⟩⟩
theorem pm_stk (hst : st0 = av.reverse ++ st) : st0.map (pm_rv G) = (av.map (pm_rv G)).reverse ++ st.map (pm_rv G) := by rw [hst, List.map_append, List.map_reverse]
theorem pm_back (v : Option Value) (st : List Value) : (v.map (pm_rv G)).toList ++ st.map (pm_rv G) = (v.toList ++ st).map (pm_rv G) := by cases v <;> rfl
/-- invokestatic -/
theorem pm_callS (cb : pm_CB M N n) (hl : Cond.methodLink M.1.cls idx N.1 ∈ pm_tbl) (hi : Cond.static N.1 ∈ pm_tbl) (d : decode M.2.1 pc = .ok (.invokestatic idx, 3)) (en : pm_En l G fi f1 kc1 ks1 N av h (.inl v, h1)) (hn : av.length = n) (hst : st0 = av.reverse ++ st) (hw : (st.map fun v => v.category).sum ≤ 8)
    (kk : pm_Ev l G f1 fo kc ks M (pc + 3) lv (v.toList ++ st) h1 r) : pm_Ev l G fi fo (kc1 + kc) (ks1 + ks) M pc lv st0 h r := by
  obtain ⟨b0, b1, b2, b3, b4, b5, b6⟩ := cb
  intro p e s m args below meth c H locs cells slots mc ms ls C P S L k1 k2
  obtain ⟨hx, hb, hml, ho, ht, -⟩ := id C
  have hM := en.met (Nat.le_refl _) (Nat.le_refl _)
  rw [pm_wsM0 b0] at hM
  refine pm_go (va_runS (n := n) (As := av.map (pm_rv G)) (rest := st.map (pm_rv G)) ⟨hx, hb, hml, ho, ht⟩ hM ⟨⟨rfl, rfl, b5, b6, pm_pay ht b1, List.mem_cons_self, ht _ b1, ht _ b2, b3, pm_len b4, ht _ hl⟩, ht _ hi⟩ (pm_pre C P S) rfl (by rw [List.length_map]; exact hn) L.1 (pm_stk hst) (pm_cat8 hw) d ⟨by show cells + kc1 ≤ mc; omega, by show slots + ks1 ≤ ms; omega⟩) S fun H1 locs1 P1 S1 => ?_
  rw [pm_back]
  exact kk p e s m args below meth c H1 locs1 _ _ mc ms ls C P1 S1 L (by omega) (by omega)
theorem pm_callSN {host : String} (cb : pm_CB M N n) (hl : Cond.methodLinkNest M.1.cls idx N.1 host ∈ pm_nst) (hi : Cond.static N.1 ∈ pm_tbl) (d : decode M.2.1 pc = .ok (.invokestatic idx, 3)) (en : pm_En l G fi f1 kc1 ks1 N av h (.inl v, h1)) (hn : av.length = n) (hst : st0 = av.reverse ++ st) (hw : (st.map fun v => v.category).sum ≤ 8)
    (kk : pm_Ev l G f1 fo kc ks M (pc + 3) lv (v.toList ++ st) h1 r) : pm_Ev l G fi fo (kc1 + kc) (ks1 + ks) M pc lv st0 h r := by
  obtain ⟨b0, b1, b2, b3, b4, b5, b6⟩ := cb
  intro p e s m args below meth c H locs cells slots mc ms ls C P S L k1 k2
  obtain ⟨hx, hb, hml, ho, ht, -, -, -, -, hF, -⟩ := id C
  have hM := en.met (Nat.le_refl _) (Nat.le_refl _)
  rw [pm_wsM0 b0] at hM
  refine pm_go (va_runSN (n := n) (As := av.map (pm_rv G)) (rest := st.map (pm_rv G)) ⟨hx, hb, hml, ho, ht⟩ hM ⟨⟨⟨rfl, rfl, b5, b6, pm_pay ht b1, List.mem_cons_self⟩, ht _ b1, ht _ b2, b3, pm_len b4, va_Nw.use rfl (hF.2.1 _ hl)⟩, ht _ hi, trivial⟩ (pm_pre C P S) rfl (by rw [List.length_map]; exact hn) L.1 (pm_stk hst) (pm_cat8 hw) d ⟨by show cells + kc1 ≤ mc; omega, by show slots + ks1 ≤ ms; omega⟩) S fun H1 locs1 P1 S1 => ?_
  rw [pm_back]
  exact kk p e s m args below meth c H1 locs1 _ _ mc ms ls C P1 S1 L (by omega) (by omega)
theorem pm_preV {b ci N0 : Nat} {Cn : String} {T : u_T} {fs : List Value} (hb : h[b]? = some (pm_Ob ci fs)) (hc : pm_cl[ci]? = some (Cn, T, N0)) (C : pm_Cx l G M p s m args meth c) (P : pm_Hp G fi h H) (S : va_S (pm_A G) s.heap H locs) : PreV s H Cn (G.1 + b) (pm_Pc G fi (.ref b :: av) h) (av.map (pm_rv G)) :=
  ⟨pm_blind, va_recv C.2.2.2.2.2.2.2.2.2.1.1 P.1 hc (pm_at hb), fun U hU hW => ⟨rfl, C.2.2.2.2.2.2.2.2.2.1.moved hW S hU, by rw [hU]; exact P⟩⟩
theorem pm_stkV {b : Nat} (hst : st0 = av.reverse ++ .ref b :: st) : st0.map (pm_rv G) = (av.map (pm_rv G)).reverse ++ .ref (G.1 + b) :: st.map (pm_rv G) := by rw [hst, List.map_append, List.map_reverse]; rfl
/-- invokevirtual -/
theorem pm_callV {b ci N0 : Nat} {T : u_T} {fs : List Value} (cb : pm_CB M N n) (hl : Cond.methodLink M.1.cls idx N.1 ∈ pm_tbl) (hi : Cond.instanceMethod N.1 ∈ pm_tbl) (hs : Cond.selects N.1.cls N.1 N.1 ∈ pm_tbl) (d : decode M.2.1 pc = .ok (.invokevirtual idx, 3)) (hb0 : h[b]? = some (pm_Ob ci fs)) (hc : pm_cl[ci]? = some (N.1.cls, T, N0)) (en : pm_En l G fi f1 kc1 ks1 N (.ref b :: av) h (.inl v, h1)) (hn : av.length = n) (hst : st0 = av.reverse ++ .ref b :: st) (hw : (st.map fun v => v.category).sum ≤ 8)
    (kk : pm_Ev l G f1 fo kc ks M (pc + 3) lv (v.toList ++ st) h1 r) : pm_Ev l G fi fo (kc1 + kc) (ks1 + ks) M pc lv st0 h r := by
  obtain ⟨b0, b1, b2, b3, b4, b5, b6⟩ := cb
  intro p e s m args below meth c H locs cells slots mc ms ls C P S L k1 k2
  obtain ⟨hx, hb, hml, ho, ht, -⟩ := id C
  have hM := en.met (Nat.le_refl _) (Nat.le_refl _)
  rw [pm_wsM0 b0] at hM
  refine pm_go (va_runV (n := n) (As := av.map (pm_rv G)) (rest := st.map (pm_rv G)) ⟨hx, hb, hml, ho, ht⟩ hM ⟨⟨rfl, rfl, b5, b6, pm_pay ht b1, List.mem_cons_self, ht _ b1, ht _ b2, b3, pm_len b4, ht _ hl⟩, ht _ hi, ht _ hs⟩ (pm_preV hb0 hc C P S) rfl (by rw [List.length_map]; exact hn) L.1 (pm_stkV hst) (pm_cat8 hw) d ⟨by show cells + kc1 ≤ mc; omega, by show slots + ks1 ≤ ms; omega⟩) S fun H1 locs1 P1 S1 => ?_
  rw [pm_back]
  exact kk p e s m args below meth c H1 locs1 _ _ mc ms ls C P1 S1 L (by omega) (by omega)
theorem pm_callVN {host : String} {b ci N0 : Nat} {T : u_T} {fs : List Value} (cb : pm_CB M N n) (hl : Cond.methodLinkNest M.1.cls idx N.1 host ∈ pm_nst) (hi : Cond.instanceMethod N.1 ∈ pm_tbl) (hs : Cond.selects N.1.cls N.1 N.1 ∈ pm_tbl) (d : decode M.2.1 pc = .ok (.invokevirtual idx, 3)) (hb0 : h[b]? = some (pm_Ob ci fs)) (hc : pm_cl[ci]? = some (N.1.cls, T, N0)) (en : pm_En l G fi f1 kc1 ks1 N (.ref b :: av) h (.inl v, h1)) (hn : av.length = n) (hst : st0 = av.reverse ++ .ref b :: st) (hw : (st.map fun v => v.category).sum ≤ 8)
    (kk : pm_Ev l G f1 fo kc ks M (pc + 3) lv (v.toList ++ st) h1 r) : pm_Ev l G fi fo (kc1 + kc) (ks1 + ks) M pc lv st0 h r := by
  obtain ⟨b0, b1, b2, b3, b4, b5, b6⟩ := cb
  intro p e s m args below meth c H locs cells slots mc ms ls C P S L k1 k2
  obtain ⟨hx, hb, hml, ho, ht, -, -, -, -, hF, -⟩ := id C
  have hM := en.met (Nat.le_refl _) (Nat.le_refl _)
  rw [pm_wsM0 b0] at hM
  refine pm_go (va_runVN (n := n) (As := av.map (pm_rv G)) (rest := st.map (pm_rv G)) ⟨hx, hb, hml, ho, ht⟩ hM ⟨⟨⟨rfl, rfl, b5, b6, pm_pay ht b1, List.mem_cons_self⟩, ht _ b1, ht _ b2, b3, pm_len b4, va_Nw.use rfl (hF.2.1 _ hl)⟩, ht _ hi, ht _ hs⟩ (pm_preV hb0 hc C P S) rfl (by rw [List.length_map]; exact hn) L.1 (pm_stkV hst) (pm_cat8 hw) d ⟨by show cells + kc1 ≤ mc; omega, by show slots + ks1 ≤ ms; omega⟩) S fun H1 locs1 P1 S1 => ?_
  rw [pm_back]
  exact kk p e s m args below meth c H1 locs1 _ _ mc ms ls C P1 S1 L (by omega) (by omega)
/-- a constructor -/
theorem pm_callI {b : Nat} (cb : pm_CB M N n) (hret : N.2.2.2.1 = none) (hnm : N.1.name = "<init>") (hl : Cond.methodLink M.1.cls idx N.1 ∈ pm_tbl) (hi : Cond.instanceMethod N.1 ∈ pm_tbl) (d : decode M.2.1 pc = .ok (.invokespecial idx, 3)) (en : pm_En l G fi f1 kc1 ks1 N (.ref b :: av) h (.inl v, h1)) (hn : av.length = n) (hst : st0 = av.reverse ++ .ref b :: st) (hw : (st.map fun v => v.category).sum ≤ 8)
    (kk : pm_Ev l G f1 fo kc ks M (pc + 3) lv (v.toList ++ st) h1 r) : pm_Ev l G fi fo (kc1 + kc) (ks1 + ks) M pc lv st0 h r := by
  obtain ⟨b0, b1, b2, b3, b4, b5, b6⟩ := cb
  intro p e s m args below meth c H locs cells slots mc ms ls C P S L k1 k2
  obtain ⟨hx, hb, hml, ho, ht, -⟩ := id C
  have hM := en.met (Nat.le_refl _) (Nat.le_refl _)
  rw [pm_wsM0 b0] at hM
  rw [hret] at b1 hM
  refine pm_go (va_runI (n := n) (b := G.1 + b) (As := av.map (pm_rv G)) (rest := st.map (pm_rv G)) ⟨hx, hb, hml, ho, ht⟩ hM ⟨⟨rfl, rfl, b5, b6, pm_pay ht b1, List.mem_cons_self, ht _ b1, ht _ b2, b3, pm_len b4, ht _ hl⟩, hnm, ht _ hi⟩ (pm_pre (av := .ref b :: av) C P S) rfl (by rw [List.length_map]; exact hn) L.1 (pm_stkV hst) (pm_cat8 hw) d ⟨by show cells + kc1 ≤ mc; omega, by show slots + ks1 ≤ ms; omega⟩) S fun H1 locs1 P1 S1 => ?_
  rw [pm_back]
  exact kk p e s m args below meth c H1 locs1 _ _ mc ms ls C P1 S1 L (by omega) (by omega)
theorem pm_callIN {host : String} {b : Nat} (cb : pm_CB M N n) (hret : N.2.2.2.1 = none) (hnm : N.1.name = "<init>") (hl : Cond.methodLinkNest M.1.cls idx N.1 host ∈ pm_nst) (hi : Cond.instanceMethod N.1 ∈ pm_tbl) (d : decode M.2.1 pc = .ok (.invokespecial idx, 3)) (en : pm_En l G fi f1 kc1 ks1 N (.ref b :: av) h (.inl v, h1)) (hn : av.length = n) (hst : st0 = av.reverse ++ .ref b :: st) (hw : (st.map fun v => v.category).sum ≤ 8)
    (kk : pm_Ev l G f1 fo kc ks M (pc + 3) lv (v.toList ++ st) h1 r) : pm_Ev l G fi fo (kc1 + kc) (ks1 + ks) M pc lv st0 h r := by
  obtain ⟨b0, b1, b2, b3, b4, b5, b6⟩ := cb
  intro p e s m args below meth c H locs cells slots mc ms ls C P S L k1 k2
  obtain ⟨hx, hb, hml, ho, ht, -, -, -, -, hF, -⟩ := id C
  have hM := en.met (Nat.le_refl _) (Nat.le_refl _)
  rw [pm_wsM0 b0] at hM
  rw [hret] at b1 hM
  refine pm_go (va_runIN (n := n) (b := G.1 + b) (As := av.map (pm_rv G)) (rest := st.map (pm_rv G)) ⟨hx, hb, hml, ho, ht⟩ hM ⟨⟨⟨rfl, rfl, b5, b6, pm_pay ht b1, List.mem_cons_self⟩, ht _ b1, ht _ b2, b3, pm_len b4, va_Nw.use rfl (hF.2.1 _ hl)⟩, hnm, ht _ hi⟩ (pm_pre (av := .ref b :: av) C P S) rfl (by rw [List.length_map]; exact hn) L.1 (pm_stkV hst) (pm_cat8 hw) d ⟨by show cells + kc1 ≤ mc; omega, by show slots + ks1 ≤ ms; omega⟩) S fun H1 locs1 P1 S1 => ?_
  rw [pm_back]
  exact kk p e s m args below meth c H1 locs1 _ _ mc ms ls C P1 S1 L (by omega) (by omega)
/-- Object's own constructor -/
theorem pm_objI {a : Nat} (hl : Cond.methodLink M.1.cls idx Lib.objectInit ∈ pm_tbl) (hi : Cond.instanceMethod Lib.objectInit ∈ pm_tbl) (hcd : Cond.code Lib.objectInit ⟨#[0xb1]⟩ 1 none ∈ pm_tbl) (d : decode M.2.1 pc = .ok (.invokespecial idx, 3)) (hfr : 1 ≤ M.2.2.2.2.2.1) (hlo : (st.map fun v => v.category).sum + 12 ≤ M.2.2.2.2.2.2)
    (kk : pm_Ev l G fi fo kc ks M (pc + 3) lv st h r) : pm_Ev l G fi fo kc ks M pc lv (.ref a :: st) h r := by
  intro p e s m args below meth c H locs cells slots mc ms ls C P S L k1 k2
  obtain ⟨hx, hb, hml, ho, ht, -⟩ := id C
  refine W.objInit hx hb ho (ht _ hl) (ht _ hi) (ht _ hcd) rfl (by rw [hml]; exact L.1) rfl d hfr ?_ (kk p e s m args below meth c H locs cells slots mc ms ls C P S L k1 k2)
  have e1 : ((fun v : Value => v.category) ∘ pm_rv G) = fun v => v.category := by funext v; exact pm_cat G v
  show 2 * 0 + ((st.map (pm_rv G)).map fun v => v.category).sum + 12 ≤ M.2.2.2.2.2.2
  rw [List.map_map, e1]
  omega
end PMC
