/-! ===== returns; fields; arrays ===== -/
section PMH
variable {l : Launch} {G : pm_G} {fi fo : Bool} {kc ks : Nat} {M : pm_M} {pc : Nat} {lv : List (Nat × Value)} {st : List Value} {h : pm_H} {r : pm_O × pm_H}
theorem pm_Hp.wk {fi fi' : Bool} {H : Heap} (hP : pm_Hp G fi h H) (hf : fi' = true → fi = true) : pm_Hp G fi' h H := ⟨hP.1, hP.2.1, fun q => hP.2.2 (hf q)⟩
/-- asked less of the heap's size, or promised more -/
theorem pm_Ev.wk {fi' fo' : Bool} (hi : fi = true → fi' = true) (ho : fo' = true → fo = true) (k : pm_Ev l G fi fo kc ks M pc lv st h r) : pm_Ev l G fi' fo' kc ks M pc lv st h r := by
  intro p e s m args below meth c H locs cells slots mc ms ls C P S L k1 k2 T hT X
  obtain ⟨t, a1, oc, b1, b2, ⟨b3, b4, b5⟩, b6⟩ := k p e s m args below meth c H locs cells slots mc ms ls C (P.wk hi) S L k1 k2 T hT X
  exact ⟨t, a1, oc, b1, b2, ⟨b3, b4.wk ho, b5⟩, b6⟩
theorem pm_Ev.more {kc' ks' : Nat} (hc : kc ≤ kc') (hs : ks ≤ ks') (k : pm_Ev l G fi fo kc ks M pc lv st h r) : pm_Ev l G fi fo kc' ks' M pc lv st h r :=
  fun p e s m args below meth c H locs cells slots mc ms ls C P S L k1 k2 => k p e s m args below meth c H locs cells slots mc ms ls C P S L (by omega) (by omega)
theorem pm_Ev.to {lv' : List (Nat × Value)} (hl : ∀ q ∈ lv', q ∈ lv) (k : pm_Ev l G fi fo kc ks M pc lv' st h r) : pm_Ev l G fi fo kc ks M pc lv st h r :=
  fun p e s m args below meth c H locs cells slots mc ms ls C P S L k1 k2 => k p e s m args below meth c H locs cells slots mc ms ls C P S ⟨L.1, L.2.1, fun q hq => by
    obtain ⟨q0, h0, rfl⟩ := List.mem_map.mp hq
    exact L.2.2 _ (List.mem_map.mpr ⟨q0, hl q0 h0, rfl⟩)⟩ k1 k2
theorem pm_end {p : Program} {e : Env} {R : Room} {s : State} {m : MethodId} {args : Array Value} {below : List Frame} {meth : Method} {c : Code} {H : Heap} {locs : List Loc} {cells slots mc ms : Nat} {g : JFrame} (hc : cells ≤ mc) (hs : slots ≤ ms) (k : W p l e R s m args below meth c H locs cells slots (MQ below (pm_Qc G fo r) args s cells slots (pm_A G)) g) :
    W p l e R s m args below meth c H locs cells slots (pm_Q G fo below args s mc ms r) g := by
  intro T hT X
  obtain ⟨t, a1, o, b1, b2, b3, L, ⟨-, b5, b6⟩, b7⟩ := k T hT X
  exact ⟨t, a1, o, b1, b2, b3, b5, L, b6.mono hc hs, b7⟩
theorem pm_qr {s t : State} {H : Heap} {locs : List Loc} {v : Option Value} {a : Array Value} (P : pm_Hp G fi h H) (S : va_S (pm_A G) s.heap H locs) (ht : t.heap = H) : pm_Qc G fi (.inl v, h) a s (.returned (v.map (pm_rv G))) t := ⟨rfl, by rw [ht]; exact P, S.F ht⟩
theorem pm_iret {v : Int32} {ty : FieldType} (d : decode M.2.1 pc = .ok (.ireturn, 1)) (hr : M.2.2.2.1 = some ty) (hn : narrow ty (.int v) = .int v) : pm_Ev l G fi fi 0 0 M pc lv [.int v] h (.inl (some (.int v)), h) :=
  fun p e s m args below meth c H locs cells slots mc ms ls C P S L k1 k2 => pm_end (by omega) (by omega) (W.zret (v := v) C.1 C.2.1 (C.2.2.2.2.2.1.trans hr) hn (fun t ht _ => pm_qr (v := some (.int v)) P S ht) S.2.2 d C.2.2.2.2.2.2.1)
theorem pm_dret {v : UInt64} (d : decode M.2.1 pc = .ok (.dreturn, 1)) (hr : M.2.2.2.1 = some .double) : pm_Ev l G fi fi 0 0 M pc lv [.double v] h (.inl (some (.double v)), h) :=
  fun p e s m args below meth c H locs cells slots mc ms ls C P S L k1 k2 => pm_end (by omega) (by omega) (W.dret (v := v) C.1 C.2.1 (C.2.2.2.2.2.1.trans hr) (fun t ht _ => pm_qr (v := some (.double v)) P S ht) S.2.2 d C.2.2.2.2.2.2.1)
theorem pm_vret (d : decode M.2.1 pc = .ok (.return_, 1)) (hr : M.2.2.2.1 = none) : pm_Ev l G fi fi 0 0 M pc lv [] h (.inl none, h) :=
  fun p e s m args below meth c H locs cells slots mc ms ls C P S L k1 k2 => pm_end (by omega) (by omega) (W.vret C.1 C.2.1 (C.2.2.2.2.2.1.trans hr) (fun t ht _ => pm_qr (v := none) P S ht) S.2.2 d C.2.2.2.2.2.2.1)
theorem pm_aret {a : Nat} {C0 : String} (d : decode M.2.1 pc = .ok (.areturn, 1)) (hr : M.2.2.2.1 = some (.object C0)) : pm_Ev l G fi fi 0 0 M pc lv [.ref a] h (.inl (some (.ref a)), h) :=
  fun p e s m args below meth c H locs cells slots mc ms ls C P S L k1 k2 => pm_end (by omega) (by omega) (W.aret (v := .ref (G.1 + a)) C.1 C.2.1 (C.2.2.2.2.2.1.trans hr) (Or.inl ⟨_, rfl⟩) (Or.inr ⟨_, rfl⟩) (fun t ht _ => pm_qr (v := some (.ref a)) P S ht) S.2.2 d C.2.2.2.2.2.2.1)
/-- one cell of the heap has changed -/
theorem pm_Hp.set {fi : Bool} {H H1 : Heap} {a : Nat} {c0 c : va_E} (hP : pm_Hp G fi h H) (ha : h[a]? = some c0) (he : va_at G.2.1 pm_cl (G.1 + a, pm_re G c) H1) (hz : H1.size = H.size) (oq : ∀ q : Nat, q ≠ G.1 + a → H1[q]? = H[q]?) : pm_Hp G fi (h.set a c) H1 := by
  refine ⟨?_, by rw [List.length_set, hz]; exact hP.2.1, fun q => by rw [List.length_set, hz]; exact hP.2.2 q⟩
  rw [← pm_set]
  exact hP.1.set (pm_D G h) (pm_at ha) he oq
/-- a field's entry in a class's pool -/
def pm_FL (own : String) (idx ci k : Nat) : Prop := ∃ (C : String) (T : u_T) (N : Nat), pm_cl[ci]? = some (C, T, N) ∧ k < N ∧ (∀ w ∈ u_ws C T N, w ∈ pm_tbl) ∧ (Cond.fieldLink own idx (T k).1 (T k).2.1 (T k).2.2.1 ∈ pm_tbl ∨ ∃ host, Cond.fieldLinkNest own idx (T k).1 (T k).2.1 (T k).2.2.1 host ∈ pm_nst)
theorem pm_getf {idx ci k a : Nat} {fs : List Value} {v : Value} (fl : pm_FL M.1.cls idx ci k) (d : decode M.2.1 pc = .ok (.getfield idx, 3)) (he : h[a]? = some (.inr (ci, fs))) (hv : fs[k]? = some v) (kk : pm_Ev l G fi fo kc ks M (pc + 3) lv (v :: st) h r) : pm_Ev l G fi fo kc ks M pc lv (.ref a :: st) h r := by
  intro p e s m args below meth c H locs cells slots mc ms ls C P S L k1 k2
  obtain ⟨Cn, T, N, hc, hk, hin, hlk⟩ := fl
  obtain ⟨hx, hb, -, ho, ht, -, -, -, -, hF, -⟩ := id C
  have hv' : (fs.map (pm_rv G))[k]? = some (pm_rv G v) := by simp [hv]
  have K := kk p e s m args below meth c H locs cells slots mc ms ls C P S L k1 k2
  rcases hlk with hlk | ⟨host, hlk⟩
  · exact va_get hx hb ht hin ho hF.1 P.1 a (pm_at he) hc k hk (ht _ hlk) (fun _ q => q) hv' d K
  · exact va_getN hx hb ht hin ho hF.1 P.1 a (pm_at he) hc k hk (va_Nw.use rfl (hF.2.1 _ hlk)) (fun _ q => q) hv' d K
def pm_FP (own : String) (idx ci k : Nat) (ty : FieldType) : Prop := ∃ (C : String) (T : u_T) (N : Nat) (t0 : Nat → FieldType), pm_cl[ci]? = some (C, T, N) ∧ k < N ∧ (∀ w ∈ u_ws C T N, w ∈ pm_tbl) ∧ (∀ k, k < N → parseFieldDescriptor (T k).2.2.1 = some (t0 k)) ∧ (∀ a, a < N → ∀ b, b < N → a ≠ b → (T a).2.1 ≠ (T b).2.1) ∧ parseFieldDescriptor (T k).2.2.1 = some ty ∧ (T k).2.2.2 = false ∧ (Cond.fieldLink own idx (T k).1 (T k).2.1 (T k).2.2.1 ∈ pm_tbl ∨ ∃ host, Cond.fieldLinkNest own idx (T k).1 (T k).2.1 (T k).2.2.1 host ∈ pm_nst)
theorem pm_putf {idx ci k a : Nat} {ty : FieldType} {fs : List Value} {v : Value} (fl : pm_FP M.1.cls idx ci k ty) (d : decode M.2.1 pc = .ok (.putfield idx, 3)) (he : h[a]? = some (.inr (ci, fs))) (hl : k < fs.length) (hn : narrow ty (pm_rv G v) = pm_rv G v) (hf : fits ty (pm_rv G v) = true) (kk : pm_Ev l G fi fo kc ks M (pc + 3) lv st (h.set a (.inr (ci, fs.set k v))) r) : pm_Ev l G fi fo kc ks M pc lv (v :: .ref a :: st) h r := by
  intro p e s m args below meth c H locs cells slots mc ms ls C P S L k1 k2
  obtain ⟨Cn, T, N, t0, hc, hk, hin, hty, hnm, hd, hfin, hlk⟩ := fl
  obtain ⟨hx, hb, -, ho, hts, -, -, -, -, hF, -⟩ := id C
  have hK := hF.1
  have hap := va_apart (own := M.1.cls) hts hin t0 hty hnm hK hc
  have he' := pm_at (G := G) he
  obtain ⟨r', h1, cell, q1, q2, q3, q4⟩ := P.1 a _ he'
  have hr : r' = (Cn, T, N) := Option.some.inj (h1.symm.trans hc)
  subst hr
  obtain ⟨hS, hfc, kC, hkC, hkind⟩ := hK.1 ci _ hc
  obtain ⟨cf, kf, f0, f, hi, hsl⟩ := hS k hk
  have hlay := hts _ (hin _ (u_in_lay hk))
  unfold u_lay at hlay
  rw [if_neg (by rw [hfin]; decide)] at hlay
  have hst := (u_facts hfc hkC (u_lays hts hin hk) hi).1
  have h6 := u_store hfc hkC hkind hlay hi hd hn hf
  have hl' : k < (fs.map (pm_rv G)).length := by rw [List.length_map]; exact hl
  have fin : ∀ H' : Heap, H'[G.1 + a]? = some (cell.setSlot f.slot (pm_rv G v)) → H'.size = H.size → (∀ q, q ≠ G.1 + a → H'[q]? = H[q]?) → W p l e (pm_rm M mc ms) s m args below meth c H' (locs ++ [⟨G.1 + a, f.slot⟩]) cells slots (pm_Q G fo below args s mc ms r) (F0 m (pc + 3) ls (st.map (pm_rv G))) := by
    intro H' e1 e2 e3
    rw [hsl] at e1
    refine kk p e s m args below meth c H' _ cells slots mc ms ls C (P.set he ?_ e2 e3) (S.put e2 e3 (Nat.le_add_right _ _)) L k1 k2
    refine ⟨_, hc, ?_⟩
    have e4 : pm_re G (.inr (ci, fs.set k v)) = .inr (ci, (fs.map (pm_rv G)).set k (pm_rv G v)) := by simp [pm_re]
    exact t_OB.to (V := updV (vp_V (fs.map (pm_rv G))) k (pm_rv G v)) ⟨_, e1, q2, q3, t_set q4 hap hk _⟩ (fun j _ => by rw [vp_updV_set hl' _ j]; show _ = vp_V ((fs.set k v).map (pm_rv G)) j; rw [List.map_set])
  rcases hlk with hlk | ⟨host, hlk⟩
  · exact W.putK hx hb (f := f) ⟨ho, hts _ hlk, ⟨_, _, _, hi⟩, hst⟩ (by rw [q2]; exact h6) q1 q3 (by rw [hsl]; exact k2_hasslot (q4 k hk)) rfl rfl d fin
  · exact va_WputK hx hb (f := f) ho (va_Nw.use rfl (hF.2.1 _ hlk)) hi hst (by rw [q2]; exact h6) q1 q3 (by rw [hsl]; exact k2_hasslot (q4 k hk)) rfl rfl d fin
def pm_FF (own : String) (idx ci k : Nat) (ty : FieldType) : Prop := ∃ (C : String) (T : u_T) (N : Nat) (t0 : Nat → FieldType), pm_cl[ci]? = some (C, T, N) ∧ k < N ∧ (∀ w ∈ u_ws C T N, w ∈ pm_tbl) ∧ (∀ k, k < N → parseFieldDescriptor (T k).2.2.1 = some (t0 k)) ∧ (∀ a, a < N → ∀ b, b < N → a ≠ b → (T a).2.1 ≠ (T b).2.1) ∧ parseFieldDescriptor (T k).2.2.1 = some ty ∧ (T k).2.2.2 = true ∧ (T k).1 = own ∧ Cond.fieldLink own idx (T k).1 (T k).2.1 (T k).2.2.1 ∈ pm_tbl
theorem pm_putF {idx ci k a : Nat} {ty : FieldType} {fs : List Value} {v : Value} (fl : pm_FF M.1.cls idx ci k ty) (hM : M.1.name = "<init>") (d : decode M.2.1 pc = .ok (.putfield idx, 3)) (he : h[a]? = some (.inr (ci, fs))) (hl : k < fs.length) (hn : narrow ty (pm_rv G v) = pm_rv G v) (hf : fits ty (pm_rv G v) = true) (kk : pm_Ev l G fi fo kc ks M (pc + 3) lv st (h.set a (.inr (ci, fs.set k v))) r) : pm_Ev l G fi fo kc ks M pc lv (v :: .ref a :: st) h r := by
  intro p e s m args below meth c H locs cells slots mc ms ls C P S L k1 k2
  obtain ⟨Cn, T, N, t0, hc, hk, hin, hty, hnm, hd, hfin, hdecl, hlk⟩ := fl
  obtain ⟨hx, hb, -, ho, hts, -, -, -, hnam, hF, -⟩ := id C
  have hK := hF.1
  have hap := va_apart (own := M.1.cls) hts hin t0 hty hnm hK hc
  have he' := pm_at (G := G) he
  obtain ⟨r', h1, cell, q1, q2, q3, q4⟩ := P.1 a _ he'
  have hr : r' = (Cn, T, N) := Option.some.inj (h1.symm.trans hc)
  subst hr
  obtain ⟨hS, hfc, kC, hkC, hkind⟩ := hK.1 ci _ hc
  obtain ⟨cf, kf, f0, f, hi, hsl⟩ := hS k hk
  have hlay := hts _ (hin _ (u_in_lay hk))
  unfold u_lay at hlay
  rw [if_pos hfin] at hlay
  have hst := (u_facts hfc hkC (u_lays hts hin hk) hi).1
  have hcf : m.cls = cf := by
    obtain ⟨_, _, c', _, _, _, -, -, hf', -, -, -, hown2, -⟩ := Cond.laysFinal_spec hlay
    have e1 : c' = cf := by have := hi.symm.trans hf'; simp at this; exact this.1.symm
    rw [hdecl] at hown2
    rw [← e1]; exact Option.some.inj (ho.symm.trans hown2)
  have h6 := u_fits hfc hkC hkind (Or.inr hlay) hi hd hn hf
  have hl' : k < (fs.map (pm_rv G)).length := by rw [List.length_map]; exact hl
  refine W.putFinK hx hb ho (hts _ hlk) hi hst hcf (hnam.trans hM) (by rw [q2]; exact h6) q1 q3 (by rw [hsl]; exact k2_hasslot (q4 k hk)) rfl rfl d fun H' e1 e2 e3 => ?_
  rw [hsl] at e1
  refine kk p e s m args below meth c H' _ cells slots mc ms ls C (P.set he ?_ e2 e3) (S.put e2 e3 (Nat.le_add_right _ _)) L k1 k2
  refine ⟨_, hc, ?_⟩
  exact t_OB.to (V := updV (vp_V (fs.map (pm_rv G))) k (pm_rv G v)) ⟨_, e1, q2, q3, t_set q4 hap hk _⟩ (fun j _ => by rw [vp_updV_set hl' _ j]; show _ = vp_V ((fs.set k v).map (pm_rv G)) j; rw [List.map_set])
end PMH
