/-! ===== throws, catches, calls of a method with a table ===== -/
section PMX
variable {l : Launch} {G : pm_G} {fi fo f1 : Bool} {kc ks kc1 ks1 : Nat} {M N : pm_M} {pc idx n : Nat} {lv : List (Nat × Value)} {st st0 av : List Value} {h h1 : pm_H} {r : pm_O × pm_H} {v : Option Value}
/-- throw new E() -/
theorem pm_throw {cls : String} {names : List String} {ik ic : Nat} (hM : M.2.2.2.2.1 = []) (hcls : Bundle.fit cls = true) (hnames : ∀ n ∈ names, Bundle.fit n = true) (w1 : Cond.classLink M.1.cls ik cls ∈ pm_tbl) (w2 : Cond.initialized cls ∈ pm_tbl) (hat : ∀ w ∈ vx_at0 M.1.cls ic cls names, w ∈ pm_tbl ∨ w ∈ pm_nst) (hgood : ∀ w ∈ Cond.classLink M.1.cls ik cls :: Cond.initialized cls :: vx_at0 M.1.cls ic cls names, vx_ot w = true)
    (d0 : decode M.2.1 pc = .ok (.new ik, 3)) (d3 : decode M.2.1 (pc + 3) = .ok (.dup, 1)) (d4 : decode M.2.1 (pc + 4) = .ok (.invokespecial ic, 3)) (d7 : decode M.2.1 (pc + 7) = .ok (.athrow, 1)) (hfr : names.length + 3 < M.2.2.2.2.2.1) (hlo : (st.map fun v => v.category).sum + (13 * (names.length + 1) + 42) ≤ M.2.2.2.2.2.2) : pm_Ev l G fi false 1 6 M pc lv st h (.inr cls, h) := by
  intro p e s m args below meth c H locs cells slots mc ms ls C P S L k1 k2
  obtain ⟨hx, hb, hml, ho, ht, -, hlk, htb, -, hF, hl⟩ := id C
  have htbl : ∀ x ∈ c.exceptionTable.toList, covers x (pc + 7) = false := by
    rw [htb, hM]
    intro x hx
    cases hx
  have e1 : ((fun v : Value => v.category) ∘ pm_rv G) = fun v => v.category := by funext v; exact pm_cat G v
  have K := vx_throw0 (p := p) (l := l) (e := e) (R := pm_rm M mc ms) (s := s) (m := m) (args := args) (below := below) (meth := meth) (c := c) (H := H) (locs := locs) (cells := cells) (slots := slots) (free := pm_A G) (ls := ls) (rest := st.map (pm_rv G)) (Qc := fun _ _ _ _ => False) (XC := fun E' st t => E' = cls ∧ pm_Hp G false h t.heap ∧ va_F (pm_A G) st t) (mc := mc) (ms := ms) (A := pm_A G) hx hb hl ho hcls hnames (ht _ w1) (ht _ w2) (fun w hw => (hat w hw).elim (fun q => ht w q) (fun q => va_Nw.use (pm_nst_on q) (hF.2.1 w q))) hgood hF.2.2.2.2.2.2.2.2.1 hF.2.2.2.2.2.2.2.2.2 S (by rw [hml]; exact L.1) d0 d3 d4 d7 htbl hfr (by rw [List.map_map, e1]; exact hlo) (by show cells + 1 ≤ mc; omega) (by show slots + 6 ≤ ms; omega) hlk
    (fun t hal hz hk => ⟨rfl, ⟨P.1.kept fun k x hx => hk x.1 ((P.1 k x hx).lt), Nat.le_trans P.2.1 hz, fun q => by cases q⟩, Nat.le_trans S.1 hz, fun q g1 g2 => (hk q (Nat.lt_of_lt_of_le g1 S.1)).trans (S.2.1 q g1 g2)⟩) S.2.2 (by omega) (by omega)
  intro T hT X
  obtain ⟨t, a1, o, b1, b2, b3⟩ := K T hT X
  rcases b3 with ⟨b3, -⟩ | ⟨q, rfl, E, ce, L9, ⟨rfl, g2, g3⟩, g4, g5, g6, g7, g8, g9⟩
  · exact b3.elim
  · exact ⟨t, a1, _, b1, b2, ⟨⟨q, ce, rfl, g4, g5, g6⟩, g2, g3⟩, g7, L9, g8, g9⟩
/-- a call that throws E, caught by a row of this method's table: the handler answers v -/
theorem pm_catch {b ci N0 len : Nat} {T : u_T} {fs : List Value} {E name : String} {pre suf : List ExceptionTableEntry} {x : ExceptionTableEntry} {k0 : Int} {w : Int32} (cb : pm_CB M N n) (hl : Cond.methodLink M.1.cls idx N.1 ∈ pm_tbl) (hi : Cond.instanceMethod N.1 ∈ pm_tbl) (hs : Cond.selects N.1.cls N.1 N.1 ∈ pm_tbl) (d : decode M.2.1 pc = .ok (.invokevirtual idx, 3)) (hb0 : h[b]? = some (pm_Ob ci fs)) (hc : pm_cl[ci]? = some (N.1.cls, T, N0)) (en : pm_En l G fi f1 kc1 ks1 N (.ref b :: av) h (.inr E, h1)) (hn : av.length = n) (hst : st0 = av.reverse ++ .ref b :: st) (hw : (st.map fun v => v.category).sum ≤ 8)
    (hsp : tableOf M.2.2.2.2.1 = pre ++ x :: suf) (hpass : ∀ z ∈ pre, z.catchType ≠ 0 ∧ ∃ nm : String, Cond.classLink M.1.cls z.catchType nm ∈ pm_tbl ∧ (E, nm) ∈ pm_ncs) (hcv : covers x pc = true) (h0 : x.catchType ≠ 0) (hlink : Cond.classLink M.1.cls x.catchType name ∈ pm_tbl) (hcast : Cond.castable E name ∈ pm_nst)
    (hd : (∃ i, len = 2 ∧ i < M.2.2.1 ∧ decode M.2.1 x.handlerPc = .ok (.astore i, 2)) ∨ (∃ i : Fin 4, len = 1 ∧ (i : Nat) < M.2.2.1 ∧ decode M.2.1 x.handlerPc = .ok (.astore_n i, 1))) (d2 : decode M.2.1 (x.handlerPc + len) = .ok (.iconst k0, 1)) (hk0 : Int32.ofInt k0 = w) (d3 : decode M.2.1 (x.handlerPc + len + 1) = .ok (.ireturn, 1)) (hr : M.2.2.2.1 = some .int) : pm_Ev l G fi f1 kc1 ks1 M pc lv st0 h (.inl (some (.int w)), h1) := by
  obtain ⟨b0, b1, b2, b3, b4, b5, b6⟩ := cb
  intro p e s m args below meth c H locs cells slots mc ms ls C P S L k1 k2
  obtain ⟨hx, hb, hml, ho, ht, hret, hlk, htb, -, hF, -⟩ := id C
  have hM := en.metX (Nat.le_refl _) (Nat.le_refl _)
  rw [pm_wsM0 b0] at hM
  have hR := vx_runV (p := p) (e := e) (R := pm_rm M mc ms) (below := below) (meth := meth) (locs := locs) (cells := cells) (slots := slots) (n := n) (g := F0 m pc ls (st0.map (pm_rv G))) (As := av.map (pm_rv G)) (rest := st.map (pm_rv G)) ⟨hx, hb, hml, ho, ht⟩ hM ⟨⟨rfl, rfl, b5, b6, pm_pay ht b1, List.mem_cons_self, ht _ b1, ht _ b2, b3, pm_len b4, ht _ hl⟩, ht _ hi, ht _ hs⟩ (pm_preV hb0 hc C P S) rfl (by rw [List.length_map]; exact hn) L.1 (pm_stkV hst) (pm_cat8 hw) d ⟨by show cells + kc1 ≤ mc; omega, by show slots + ks1 ≤ ms; omega⟩
  intro T hT X
  rcases hR T hT X with ⟨v9, st₀, t, T', L9, -, -, -, -, -, q, -⟩ | ⟨q, st₀, t, T', L9, E9, ce, g0, X', gL, e1, e2, ⟨rfl, gH, gz, gk⟩, gc, gv, gn, go⟩
  · exact q.elim
  rw [g0] at gz gk
  have S1 : va_S (pm_A G) s.heap T'.heap (locs ++ L9) := ⟨Nat.le_trans S.1 (by rw [e1]; exact gz), fun q g1 g2 => by rw [e1, gk q (Nat.lt_of_lt_of_le g1 S.1) g2]; exact S.2.1 q g1 g2, fun q hq => by
    rcases List.mem_append.mp hq with g | g
    · exact S.2.2 q g
    · exact gL q g⟩
  have P1 : pm_Hp G f1 h1 T'.heap := by rw [e1]; exact gH
  have fin : ∀ ls' : Array Slot, W p l e (pm_rm M mc ms) s m args below meth c T'.heap (locs ++ L9) (cells + kc1) (slots + ks1) (pm_Q G f1 below args s mc ms (.inl (some (.int w)), h1)) (F0 m (x.handlerPc + len) ls' []) := fun ls' =>
    lv_iconst (v := w) hx hb d2 hk0 (pm_end (by omega) (by omega) (W.zret (v := w) hx hb (hret.trans hr) rfl (fun t ht _ => pm_qr (v := some (.int w)) P1 S1 ht) S1.2.2 d3 hlk))
  have K : W p l e (pm_rm M mc ms) s m args below meth c T'.heap (locs ++ L9) (cells + kc1) (slots + ks1) (pm_Q G f1 below args s mc ms (.inl (some (.int w)), h1)) (F0 m x.handlerPc ls [.ref q]) := by
    rcases hd with ⟨i, rfl, hi9, hd9⟩ | ⟨i, rfl, hi9, hd9⟩
    · exact lv_astore hx hb hd9 L hi9 rfl (fun ls' _ => fin ls')
    · exact lv_astore_n hx hb hd9 rfl L hi9 rfl (fun ls' _ => fin ls')
  obtain ⟨t2, a1, b1⟩ := vx_catch (ls := ls) (rest := st.map (pm_rv G)) (pc := pc) ho pre x suf (htb.trans hsp) (fun z hz => by
    obtain ⟨z1, nm, z2, z3⟩ := hpass z hz
    exact Or.inr ⟨z1, nm, ht _ z2, hF.2.2.1 _ z3⟩) hcv h0 (ht _ hlink) (va_Nw.use rfl (hF.2.1 _ hcast)) (by rw [e1]; exact gc) gv gn K T' rfl X'
  exact ⟨t2, go.trans a1, b1⟩
/-- invokestatic of a method with a table -/
theorem pm_callSW (b1 : Cond.codeWith N.1 N.2.1 N.2.2.1 N.2.2.2.1 N.2.2.2.2.1 ∈ pm_tbl) (hN : ¬ N.2.2.2.2.1 = []) (b2 : Cond.initialized N.1.cls ∈ pm_tbl) (b3 : N.1.cls ≠ "java/lang/invoke/MethodHandle" ∧ N.1.cls ≠ "java/lang/invoke/VarHandle") (b4 : (parseMethodDescriptor N.1.desc).map (fun d => d.parameters.length) = some n) (b5 : N.2.2.2.2.2.1 + 1 ≤ M.2.2.2.2.2.1) (b6 : 8 + (N.2.2.1 + 11) + N.2.2.2.2.2.2 ≤ M.2.2.2.2.2.2)
    (hl : Cond.methodLink M.1.cls idx N.1 ∈ pm_tbl) (hi : Cond.static N.1 ∈ pm_tbl) (d : decode M.2.1 pc = .ok (.invokestatic idx, 3)) (en : pm_En l G fi f1 kc1 ks1 N av h (.inl v, h1)) (hn : av.length = n) (hst : st0 = av.reverse ++ st) (hw : (st.map fun v => v.category).sum ≤ 8)
    (kk : pm_Ev l G f1 fo kc ks M (pc + 3) lv (v.toList ++ st) h1 r) : pm_Ev l G fi fo (kc1 + kc) (ks1 + ks) M pc lv st0 h r := by
  intro p e s m args below meth c H locs cells slots mc ms ls C P S L k1 k2
  obtain ⟨hx, hb, hml, ho, ht, -⟩ := id C
  have hM := en.met (Nat.le_refl _) (Nat.le_refl _)
  have hws : pm_wsM N = Cond.codeWith N.1 N.2.1 N.2.2.1 N.2.2.2.1 N.2.2.2.2.1 :: pm_tbl := by unfold pm_wsM; rw [if_neg hN]
  rw [hws] at hM
  refine pm_go (vx_runSW (n := n) (hh := N.2.2.2.2.1) (As := av.map (pm_rv G)) (rest := st.map (pm_rv G)) ⟨hx, hb, hml, ho, ht⟩ hM ⟨⟨rfl, rfl, b5, b6, pm_pay ht b1, List.mem_cons_self⟩, ht _ b1, ht _ b2, b3, pm_len b4, ht _ hl, ht _ hi⟩ (pm_pre C P S) rfl (by rw [List.length_map]; exact hn) L.1 (pm_stk hst) (pm_cat8 hw) d ⟨by show cells + kc1 ≤ mc; omega, by show slots + ks1 ≤ ms; omega⟩) S fun H1 locs1 P1 S1 => ?_
  rw [pm_back]
  exact kk p e s m args below meth c H1 locs1 _ _ mc ms ls C P1 S1 L (by omega) (by omega)
end PMX
