/-! ===== the class: types and shapes ===== -/
def g_sh (t r c : Nat) : Option (Nat × Nat × Nat) := if (1 ≤ r ∧ r ≤ 4) ∧ 1 ≤ c ∧ c ≤ 4 then some (t, r, c) else none
def g_pt (S : gS) (j : Nat) : Option (Nat × Nat × Nat) → gS
  | none => S
  | some (t, r, c) => gsT (gsT (gsT S j 0 t) j 1 r) j 2 c
abbrev g_PS (S : gS) (j : Nat) (h : pm_H) (x : Option (Nat × Nat × Nat)) : pm_O × pm_H → Prop := fun x9 => x9.1 = .inl (some (.int (if x.isSome = true then 1 else 0))) ∧ gH (g_pt S j x) x9.2 ∧ gFr h x9.2
theorem c_shape2 {l : Launch} {G : pm_G} {fi : Bool} {h : pm_H} {S : gS} {j t r c : Nat} (hl : l.stackTraces = false) (H : gH S h) (hW : gW S) (hj : j < 20) (hr : r < 1000) (hc : c < 1000) : pm_Cn l G fi fi 0 0 M_Tb_shape [.ref (8 + 3 * j), .int (nI t), .int (nI r), .int (nI c)] h (g_PS S j h (g_sh t r c)) := by
  have k := c_shape (l := l) (G := G) (fi := fi) (t := t) hl H hW hj (r := r) (c := c) hr hc
  by_cases q : (1 ≤ r ∧ r ≤ 4) ∧ 1 ≤ c ∧ c ≤ 4
  · simp only [if_pos q] at k
    simp only [g_PS, g_sh, if_pos q]
    exact k
  · simp only [if_neg q] at k
    simp only [g_PS, g_sh, if_neg q]
    exact k
theorem pm_bn {p : Prop} [Decidable p] : narrow .boolean (.int (if p then 1 else 0)) = .int (if p then 1 else 0) := by split <;> rfl
theorem pm_En.ofF {l : Launch} {G : pm_G} {fi fo : Bool} {kc ks : Nat} {M : pm_M} {av : List Value} {h : pm_H} {r : pm_O × pm_H} (hl : l.stackTraces = false) (hy : plainFor M.1 = true) (hn : (lg_sl av).length ≤ M.2.2.1)
    (k : pm_Ev l G fi fo kc ks M 0 (lv_args 0 av) [] h r) : pm_En l G fi fo kc ks M av h r := by
  intro mc ms hc hs
  have key : ∀ (args : Array Value) (s : State) (m : MethodId), (headSpec (pm_wsM M) (pm_rm M mc ms)).pre.before args s = true → s.methodNamed? M.1 = some m → ∃ meth c, s.vm.method? m = some meth ∧ meth.code = some c ∧ c.code = M.2.1 ∧ c.maxLocals = M.2.2.1 ∧ meth.sig.returnType = M.2.2.2.1 ∧ meth.locks = false ∧ c.exceptionTable.toList = tableOf M.2.2.2.2.1 := by
    intro args s m hp hn
    have h0 := atoms_spec (ws := pm_wsM M) hp _ List.mem_cons_self
    by_cases he : M.2.2.2.2.1 = []
    · rw [if_pos he] at h0
      obtain ⟨meth, c, h1, h2, h3, h4, h5, h6, h7, -⟩ := Cond.code_spec hn h0
      refine ⟨meth, c, h1, h2, h3, h4, h5, h6, ?_⟩
      rw [he, Array.isEmpty_iff.mp h7]
      rfl
    · rw [if_neg he] at h0
      obtain ⟨m9, meth, c, hn9, h1, h2, h3, h4, h7, h5, h6, -⟩ := Cond.codeWith_spec h0
      cases hn.symm.trans hn9
      refine ⟨meth, c, h1, h2, h3, h4, h5, h6, ?_⟩
      rw [← h7, table_eq]
  refine MetFree.of_bodySF (code := M.2.1) (maxLocals := M.2.2.1) (ret := M.2.2.2.1) hy ?_ ?_
  · intro args s m hp hn
    obtain ⟨meth, c, h1, h2, h3, h4, h5, h6, -⟩ := key args s m hp hn
    exact ⟨meth, c, h1, h2, h3, h4, h5, h6⟩
  · intro p e s m args below meth c s₁ B hml hP _
    obtain ⟨rfl, hF, hH⟩ := hP
    have hh0 : s₁.heap = s.heap := by rw [B.state]; rfl
    obtain ⟨meth9, c9, h1, h2, -, -, -, -, h7⟩ := key _ s m B.pre B.named
    cases Option.some.inj (h1.symm.trans B.method)
    cases Option.some.inj (h2.symm.trans (Stand.of_body B).code)
    have hl0 := lv_entry (av.map (pm_rv G)) (n := M.2.2.1) (by rw [pm_sl]; exact hn)
    have hC : pm_Cx l G M p s m (av.map (pm_rv G)).toArray meth c := ⟨B.exec, B.bytes, hml, findClass_of_methodNamed B.named, fun w hw => atoms_spec (ws := pm_wsM M) B.pre _ (List.mem_cons_of_mem _ hw), B.returns, B.notSynchronized, h7, (name_of_methodNamed B.named B.method).1, hF, hl⟩
    rw [pm_args] at hl0
    have K := k p e s m _ below meth c s.heap [] 0 0 mc ms _ hC hH va_S.rf hl0 (by omega) (by omega)
    rw [List.map_nil, ← lg_entry_eq] at K
    obtain ⟨t, a1, o, b1, b2, b3, b4⟩ := K s₁ hh0 (Stand.of_body B)
    exact ⟨t, o, a1, b1, b2, b3, b4⟩
theorem pm_Cn.ofF {l : Launch} {G : pm_G} {fi fo : Bool} {kc ks : Nat} {M : pm_M} {h : pm_H} {Post : pm_O × pm_H → Prop} {av : List Value} (hl : l.stackTraces = false) (hy : plainFor M.1 = true) (hn : (lg_sl av).length ≤ M.2.2.1) (k : pm_Px l G fi fo kc ks M 0 (lv_args 0 av) [] h Post) : pm_Cn l G fi fo kc ks M av h Post := by
  obtain ⟨r, hp, e⟩ := k
  exact ⟨r, hp, pm_En.ofF hl hy hn e⟩
set_option maxHeartbeats 4000000 in
set_option maxRecDepth 20000 in
theorem c_sf {l : Launch} {G : pm_G} {fi : Bool} {h : pm_H} {x y : Nat} (hl : l.stackTraces = false) (hx : x < 1000) (hy : y < 1000) : pm_En l G fi fi 0 0 M_Sh_sidesFit [.int (nI x), .int (nI y)] h (.inl (some (.int (if (x = y ∨ x = 1 ∨ y = 1) then 1 else 0))), h) := by
  refine pm_Cn.eq (pm_Cn.of hl (by decide) (Nat.le_of_ble_eq_true rfl) ?_)
  refine px (fun _ => pm_iload_n (pc := 0) d_Sh_sidesFit_0 rfl) ?_
  refine px (fun _ => pm_iload_n (pc := 1) d_Sh_sidesFit_1 rfl) ?_
  refine pxb (fun _ => pm_icmp_eq (pc := 2) (tgt := 15) d_Sh_sidesFit_2 (by decide)) (fun c_1 => ?_) (fun c_1 => ?_)
  · have n_c_1 : x = y := (nI_eq (a := x) (b := y) (by omega) (by omega)).mp c_1
    refine px (fun _ => pm_iconst (v := 1) (pc := 15) d_Sh_sidesFit_15 rfl) ?_
    refine px (fun _ => pm_goto (tgt := 20) (pc := 16) d_Sh_sidesFit_16 (by decide)) ?_
    exact pxr (pm_iret (pc := 20) d_Sh_sidesFit_20 rfl rfl) (by rw [if_pos (by omega)])
  · have n_c_1 : ¬ (x = y) := fun zq => c_1 ((nI_eq (a := x) (b := y) (by omega) (by omega)).mpr zq)
    refine px (fun _ => pm_iload_n (pc := 5) d_Sh_sidesFit_5 rfl) ?_
    refine px (fun _ => pm_iconst (v := 1) (pc := 6) d_Sh_sidesFit_6 rfl) ?_
    refine pxb (fun _ => pm_icmp_eq (pc := 7) (tgt := 15) d_Sh_sidesFit_7 (by decide)) (fun c_2 => ?_) (fun c_2 => ?_)
    · have n_c_2 : x = 1 := (nI_eq (a := x) (b := 1) (by omega) (by omega)).mp c_2
      refine px (fun _ => pm_iconst (v := 1) (pc := 15) d_Sh_sidesFit_15 rfl) ?_
      refine px (fun _ => pm_goto (tgt := 20) (pc := 16) d_Sh_sidesFit_16 (by decide)) ?_
      exact pxr (pm_iret (pc := 20) d_Sh_sidesFit_20 rfl rfl) (by rw [if_pos (by omega)])
    · have n_c_2 : ¬ (x = 1) := fun zq => c_2 ((nI_eq (a := x) (b := 1) (by omega) (by omega)).mpr zq)
      refine px (fun _ => pm_iload_n (pc := 10) d_Sh_sidesFit_10 rfl) ?_
      refine px (fun _ => pm_iconst (v := 1) (pc := 11) d_Sh_sidesFit_11 rfl) ?_
      refine pxn (fun _ => pm_icmp_ne (pc := 12) (tgt := 19) d_Sh_sidesFit_12 (by decide)) (fun c_3 => ?_) (fun c_3 => ?_)
      · have n_c_3 : ¬ (y = 1) := fun zq => c_3 ((nI_eq (a := y) (b := 1) (by omega) (by omega)).mpr zq)
        refine px (fun _ => pm_iconst (v := 0) (pc := 19) d_Sh_sidesFit_19 rfl) ?_
        exact pxr (pm_iret (pc := 20) d_Sh_sidesFit_20 rfl rfl) (by rw [if_neg (by omega)])
      · have n_c_3 : y = 1 := (nI_eq (a := y) (b := 1) (by omega) (by omega)).mp c_3
        refine px (fun _ => pm_iconst (v := 1) (pc := 15) d_Sh_sidesFit_15 rfl) ?_
        refine px (fun _ => pm_goto (tgt := 20) (pc := 16) d_Sh_sidesFit_16 (by decide)) ?_
        exact pxr (pm_iret (pc := 20) d_Sh_sidesFit_20 rfl rfl) (by rw [if_pos (by omega)])
set_option maxHeartbeats 4000000 in
set_option maxRecDepth 20000 in
theorem c_max {l : Launch} {G : pm_G} {fi : Bool} {h : pm_H} {x y : Nat} (hl : l.stackTraces = false) (hx : x < 1000) (hy : y < 1000) : pm_En l G fi fi 0 0 M_Ma_max [.int (nI x), .int (nI y)] h (.inl (some (.int (nI (max x y)))), h) := by
  refine pm_Cn.eq (pm_Cn.ofF hl (by decide +kernel) (Nat.le_of_ble_eq_true rfl) ?_)
  refine px (fun _ => pm_iload_n (pc := 0) d_Ma_max_0 rfl) ?_
  refine px (fun _ => pm_iload_n (pc := 1) d_Ma_max_1 rfl) ?_
  refine pxb (fun _ => pm_icmp_lt (pc := 2) (tgt := 9) d_Ma_max_2 (by decide)) (fun c_1 => ?_) (fun c_1 => ?_)
  · have n_c_1 : x < y := (nI_ltI (a := x) (b := y) (by omega) (by omega)).mp c_1
    refine px (fun _ => pm_iload_n (pc := 9) d_Ma_max_9 rfl) ?_
    exact pxr (pm_iret (pc := 10) d_Ma_max_10 rfl rfl) (by rw [show max x y = y by omega])
  · have n_c_1 : ¬ (x < y) := fun zq => c_1 ((nI_ltI (a := x) (b := y) (by omega) (by omega)).mpr zq)
    refine px (fun _ => pm_iload_n (pc := 5) d_Ma_max_5 rfl) ?_
    refine px (fun _ => pm_goto (tgt := 10) (pc := 6) d_Ma_max_6 (by decide)) ?_
    exact pxr (pm_iret (pc := 10) d_Ma_max_10 rfl rfl) (by rw [show max x y = x by omega])
set_option maxHeartbeats 4000000 in
set_option maxRecDepth 20000 in
theorem c_floats {l : Launch} {G : pm_G} {fi : Bool} {h : pm_H} {S : gS} {a b : Nat} (hl : l.stackTraces = false) (H : gH S h) (hW : gW S) (ha : a < 20) (hb : b < 20) : pm_En l G fi fi 0 0 M_Sh_areFloats [.ref (8 + 3 * a), .ref (8 + 3 * b)] h (.inl (some (.int (if gT S a 0 = 0 ∧ gT S b 0 = 0 then 1 else 0))), h) := by
  refine pm_Cn.eq (pm_Cn.of hl (by decide) (Nat.le_of_ble_eq_true rfl) ?_)
  have ba := hW.2.2.2.2.1 a ha
  have bb := hW.2.2.2.2.1 b hb
  refine px (fun _ => pm_aload_n (pc := 0) d_Sh_areFloats_0 rfl) ?_
  refine px (fun _ => pm_getf fl_Sh_15 (pc := 1) d_Sh_areFloats_1 (H.2.2.2.2.2.2.1 a ha).2.1 rfl) ?_
  refine pxn (fun _ => pm_if_ne (pc := 4) (tgt := 18) d_Sh_areFloats_4 (by decide)) (fun c_1 => ?_) (fun c_1 => ?_)
  · have n_c_1 : ¬ ((gT S a 0) = 0) := fun zq => c_1 ((nI_eq (a := (gT S a 0)) (b := 0) (by omega) (by omega)).mpr zq)
    refine px (fun _ => pm_iconst (v := 0) (pc := 18) d_Sh_areFloats_18 rfl) ?_
    exact pxr (pm_iret (pc := 19) d_Sh_areFloats_19 rfl rfl) (by rw [if_neg (by omega)])
  · have n_c_1 : (gT S a 0) = 0 := (nI_eq (a := (gT S a 0)) (b := 0) (by omega) (by omega)).mp c_1
    refine px (fun _ => pm_aload_n (pc := 7) d_Sh_areFloats_7 rfl) ?_
    refine px (fun _ => pm_getf fl_Sh_15 (pc := 8) d_Sh_areFloats_8 (H.2.2.2.2.2.2.1 b hb).2.1 rfl) ?_
    refine pxn (fun _ => pm_if_ne (pc := 11) (tgt := 18) d_Sh_areFloats_11 (by decide)) (fun c_2 => ?_) (fun c_2 => ?_)
    · have n_c_2 : ¬ ((gT S b 0) = 0) := fun zq => c_2 ((nI_eq (a := (gT S b 0)) (b := 0) (by omega) (by omega)).mpr zq)
      refine px (fun _ => pm_iconst (v := 0) (pc := 18) d_Sh_areFloats_18 rfl) ?_
      exact pxr (pm_iret (pc := 19) d_Sh_areFloats_19 rfl rfl) (by rw [if_neg (by omega)])
    · have n_c_2 : (gT S b 0) = 0 := (nI_eq (a := (gT S b 0)) (b := 0) (by omega) (by omega)).mp c_2
      refine px (fun _ => pm_iconst (v := 1) (pc := 14) d_Sh_areFloats_14 rfl) ?_
      refine px (fun _ => pm_goto (tgt := 19) (pc := 15) d_Sh_areFloats_15 (by decide)) ?_
      exact pxr (pm_iret (pc := 19) d_Sh_areFloats_19 rfl rfl) (by rw [if_pos (by omega)])
set_option maxHeartbeats 4000000 in
set_option maxRecDepth 20000 in
theorem c_alike {l : Launch} {G : pm_G} {fi : Bool} {h : pm_H} {S : gS} {a b : Nat} (hl : l.stackTraces = false) (H : gH S h) (hW : gW S) (ha : a < 20) (hb : b < 20) : pm_En l G fi fi 0 0 M_Sh_areAlike [.ref (8 + 3 * a), .ref (8 + 3 * b)] h (.inl (some (.int (if gT S a 0 = gT S b 0 ∧ gT S a 1 = gT S b 1 ∧ gT S a 2 = gT S b 2 then 1 else 0))), h) := by
  refine pm_Cn.eq (pm_Cn.of hl (by decide) (Nat.le_of_ble_eq_true rfl) ?_)
  have ba := hW.2.2.2.2.1 a ha
  have bb := hW.2.2.2.2.1 b hb
  refine px (fun _ => pm_aload_n (pc := 0) d_Sh_areAlike_0 rfl) ?_
  refine px (fun _ => pm_getf fl_Sh_15 (pc := 1) d_Sh_areAlike_1 (H.2.2.2.2.2.2.1 a ha).2.1 rfl) ?_
  refine px (fun _ => pm_aload_n (pc := 4) d_Sh_areAlike_4 rfl) ?_
  refine px (fun _ => pm_getf fl_Sh_15 (pc := 5) d_Sh_areAlike_5 (H.2.2.2.2.2.2.1 b hb).2.1 rfl) ?_
  refine pxn (fun _ => pm_icmp_ne (pc := 8) (tgt := 37) d_Sh_areAlike_8 (by decide)) (fun c_1 => ?_) (fun c_1 => ?_)
  · have n_c_1 : ¬ ((gT S a 0) = (gT S b 0)) := fun zq => c_1 ((nI_eq (a := (gT S a 0)) (b := (gT S b 0)) (by omega) (by omega)).mpr zq)
    refine px (fun _ => pm_iconst (v := 0) (pc := 37) d_Sh_areAlike_37 rfl) ?_
    exact pxr (pm_iret (pc := 38) d_Sh_areAlike_38 rfl rfl) (by rw [if_neg (by omega)])
  · have n_c_1 : (gT S a 0) = (gT S b 0) := (nI_eq (a := (gT S a 0)) (b := (gT S b 0)) (by omega) (by omega)).mp c_1
    refine px (fun _ => pm_aload_n (pc := 11) d_Sh_areAlike_11 rfl) ?_
    refine px (fun _ => pm_getf fl_Sh_33 (pc := 12) d_Sh_areAlike_12 (H.2.2.2.2.2.2.1 a ha).2.1 rfl) ?_
    refine px (fun _ => pm_aload_n (pc := 15) d_Sh_areAlike_15 rfl) ?_
    refine px (fun _ => pm_getf fl_Sh_33 (pc := 16) d_Sh_areAlike_16 (H.2.2.2.2.2.2.1 b hb).2.1 rfl) ?_
    refine pxn (fun _ => pm_icmp_ne (pc := 19) (tgt := 37) d_Sh_areAlike_19 (by decide)) (fun c_2 => ?_) (fun c_2 => ?_)
    · have n_c_2 : ¬ ((gT S a 1) = (gT S b 1)) := fun zq => c_2 ((nI_eq (a := (gT S a 1)) (b := (gT S b 1)) (by omega) (by omega)).mpr zq)
      refine px (fun _ => pm_iconst (v := 0) (pc := 37) d_Sh_areAlike_37 rfl) ?_
      exact pxr (pm_iret (pc := 38) d_Sh_areAlike_38 rfl rfl) (by rw [if_neg (by omega)])
    · have n_c_2 : (gT S a 1) = (gT S b 1) := (nI_eq (a := (gT S a 1)) (b := (gT S b 1)) (by omega) (by omega)).mp c_2
      refine px (fun _ => pm_aload_n (pc := 22) d_Sh_areAlike_22 rfl) ?_
      refine px (fun _ => pm_getf fl_Sh_30 (pc := 23) d_Sh_areAlike_23 (H.2.2.2.2.2.2.1 a ha).2.1 rfl) ?_
      refine px (fun _ => pm_aload_n (pc := 26) d_Sh_areAlike_26 rfl) ?_
      refine px (fun _ => pm_getf fl_Sh_30 (pc := 27) d_Sh_areAlike_27 (H.2.2.2.2.2.2.1 b hb).2.1 rfl) ?_
      refine pxn (fun _ => pm_icmp_ne (pc := 30) (tgt := 37) d_Sh_areAlike_30 (by decide)) (fun c_3 => ?_) (fun c_3 => ?_)
      · have n_c_3 : ¬ ((gT S a 2) = (gT S b 2)) := fun zq => c_3 ((nI_eq (a := (gT S a 2)) (b := (gT S b 2)) (by omega) (by omega)).mpr zq)
        refine px (fun _ => pm_iconst (v := 0) (pc := 37) d_Sh_areAlike_37 rfl) ?_
        exact pxr (pm_iret (pc := 38) d_Sh_areAlike_38 rfl rfl) (by rw [if_neg (by omega)])
      · have n_c_3 : (gT S a 2) = (gT S b 2) := (nI_eq (a := (gT S a 2)) (b := (gT S b 2)) (by omega) (by omega)).mp c_3
        refine px (fun _ => pm_iconst (v := 1) (pc := 33) d_Sh_areAlike_33 rfl) ?_
        refine px (fun _ => pm_goto (tgt := 38) (pc := 34) d_Sh_areAlike_34 (by decide)) ?_
        exact pxr (pm_iret (pc := 38) d_Sh_areAlike_38 rfl rfl) (by rw [if_pos (by omega)])
set_option maxHeartbeats 4000000 in
set_option maxRecDepth 20000 in
theorem c_fit {l : Launch} {G : pm_G} {fi : Bool} {h : pm_H} {S : gS} {a b o9 t : Nat} (hl : l.stackTraces = false) (H : gH S h) (hW : gW S) (ha : a < 20) (hb : b < 20) (ho : o9 < 20) : pm_Cn l G fi fi 0 0 M_Sh_fit [.ref (8 + 3 * a), .ref (8 + 3 * b), .int (nI t), .ref (8 + 3 * o9)] h (g_PS S o9 h (if (gT S a 1 = gT S b 1 ∨ gT S a 1 = 1 ∨ gT S b 1 = 1) ∧ (gT S a 2 = gT S b 2 ∨ gT S a 2 = 1 ∨ gT S b 2 = 1) then g_sh t (max (gT S a 1) (gT S b 1)) (max (gT S a 2) (gT S b 2)) else none)) := by
  refine pm_Cn.of hl (by decide) (Nat.le_of_ble_eq_true rfl) ?_
  have ba := hW.2.2.2.2.1 a ha
  have bb := hW.2.2.2.2.1 b hb
  refine px (fun _ => pm_aload_n (pc := 0) d_Sh_fit_0 rfl) ?_
  refine px (fun _ => pm_getf fl_Sh_33 (pc := 1) d_Sh_fit_1 (H.2.2.2.2.2.2.1 a ha).2.1 rfl) ?_
  refine px (fun _ => pm_aload_n (pc := 4) d_Sh_fit_4 rfl) ?_
  refine px (fun _ => pm_getf fl_Sh_33 (pc := 5) d_Sh_fit_5 (H.2.2.2.2.2.2.1 b hb).2.1 rfl) ?_
  refine px (fun _ => k_Sh_fit_8 (kc1 := 0) (ks1 := 0) (kc := 0) (ks := 0) (av := [.int (nI (gT S a 1)), .int (nI (gT S b 1))]) (st := []) (c_sf hl (by omega) (by omega)) rfl rfl (Nat.le_of_ble_eq_true rfl)) ?_
  refine pxb (fun _ => pm_if_eq (pc := 11) (tgt := 62) d_Sh_fit_11 (by decide)) (fun c_1 => ?_) (fun c_1 => ?_)
  · have n_c_1 : ¬ ((gT S a 1 = gT S b 1 ∨ gT S a 1 = 1 ∨ gT S b 1 = 1)) := g_if0.mp c_1
    refine px (fun _ => pm_iconst (v := 0) (pc := 62) d_Sh_fit_62 rfl) ?_
    have fx : ¬ ((gT S a 1 = gT S b 1 ∨ gT S a 1 = 1 ∨ gT S b 1 = 1) ∧ (gT S a 2 = gT S b 2 ∨ gT S a 2 = 1 ∨ gT S b 2 = 1)) := by omega
    exact pxr (pm_iret (pc := 63) d_Sh_fit_63 rfl rfl) ⟨by rw [if_neg fx] <;> rfl, by rw [if_neg fx]; exact H, gFr.rf h⟩
  · have n_c_1 : (gT S a 1 = gT S b 1 ∨ gT S a 1 = 1 ∨ gT S b 1 = 1) := Decidable.byContradiction fun q => c_1 (g_if0.mpr q)
    refine px (fun _ => pm_aload_n (pc := 14) d_Sh_fit_14 rfl) ?_
    refine px (fun _ => pm_getf fl_Sh_30 (pc := 15) d_Sh_fit_15 (H.2.2.2.2.2.2.1 a ha).2.1 rfl) ?_
    refine px (fun _ => pm_aload_n (pc := 18) d_Sh_fit_18 rfl) ?_
    refine px (fun _ => pm_getf fl_Sh_30 (pc := 19) d_Sh_fit_19 (H.2.2.2.2.2.2.1 b hb).2.1 rfl) ?_
    refine px (fun _ => k_Sh_fit_22 (kc1 := 0) (ks1 := 0) (kc := 0) (ks := 0) (av := [.int (nI (gT S a 2)), .int (nI (gT S b 2))]) (st := []) (c_sf hl (by omega) (by omega)) rfl rfl (Nat.le_of_ble_eq_true rfl)) ?_
    refine pxb (fun _ => pm_if_eq (pc := 25) (tgt := 62) d_Sh_fit_25 (by decide)) (fun c_2 => ?_) (fun c_2 => ?_)
    · have n_c_2 : ¬ ((gT S a 2 = gT S b 2 ∨ gT S a 2 = 1 ∨ gT S b 2 = 1)) := g_if0.mp c_2
      refine px (fun _ => pm_iconst (v := 0) (pc := 62) d_Sh_fit_62 rfl) ?_
      have fx : ¬ ((gT S a 1 = gT S b 1 ∨ gT S a 1 = 1 ∨ gT S b 1 = 1) ∧ (gT S a 2 = gT S b 2 ∨ gT S a 2 = 1 ∨ gT S b 2 = 1)) := by omega
      exact pxr (pm_iret (pc := 63) d_Sh_fit_63 rfl rfl) ⟨by rw [if_neg fx] <;> rfl, by rw [if_neg fx]; exact H, gFr.rf h⟩
    · have n_c_2 : (gT S a 2 = gT S b 2 ∨ gT S a 2 = 1 ∨ gT S b 2 = 1) := Decidable.byContradiction fun q => c_2 (g_if0.mpr q)
      refine px (fun _ => pm_aload_n (pc := 28) d_Sh_fit_28 rfl) ?_
      refine px (fun _ => pm_iload_n (pc := 29) d_Sh_fit_29 rfl) ?_
      refine px (fun _ => pm_aload_n (pc := 30) d_Sh_fit_30 rfl) ?_
      refine px (fun _ => pm_getf fl_Sh_33 (pc := 31) d_Sh_fit_31 (H.2.2.2.2.2.2.1 a ha).2.1 rfl) ?_
      refine px (fun _ => pm_aload_n (pc := 34) d_Sh_fit_34 rfl) ?_
      refine px (fun _ => pm_getf fl_Sh_33 (pc := 35) d_Sh_fit_35 (H.2.2.2.2.2.2.1 b hb).2.1 rfl) ?_
      refine px (fun _ => k_Sh_fit_38 (kc1 := 0) (ks1 := 0) (kc := 0) (ks := 0) (av := [.int (nI (gT S a 1)), .int (nI (gT S b 1))]) (st := [.int (nI t), .ref (8 + 3 * o9)]) (c_max hl (by omega) (by omega)) rfl rfl (Nat.le_of_ble_eq_true rfl)) ?_
      refine px (fun _ => pm_aload_n (pc := 41) d_Sh_fit_41 rfl) ?_
      refine px (fun _ => pm_getf fl_Sh_30 (pc := 42) d_Sh_fit_42 (H.2.2.2.2.2.2.1 a ha).2.1 rfl) ?_
      refine px (fun _ => pm_aload_n (pc := 45) d_Sh_fit_45 rfl) ?_
      refine px (fun _ => pm_getf fl_Sh_30 (pc := 46) d_Sh_fit_46 (H.2.2.2.2.2.2.1 b hb).2.1 rfl) ?_
      refine px (fun _ => k_Sh_fit_49 (kc1 := 0) (ks1 := 0) (kc := 0) (ks := 0) (av := [.int (nI (gT S a 2)), .int (nI (gT S b 2))]) (st := [.int (nI (max (gT S a 1) (gT S b 1))), .int (nI t), .ref (8 + 3 * o9)]) (c_max hl (by omega) (by omega)) rfl rfl (Nat.le_of_ble_eq_true rfl)) ?_
      obtain ⟨⟨o3, h3⟩, ⟨e3, H3, F3⟩, en3⟩ := c_shape2 (l := l) (G := G) (fi := fi) (t := t) (r := max (gT S a 1) (gT S b 1)) (c := max (gT S a 2) (gT S b 2)) hl H hW ho (by omega) (by omega)
      dsimp only at e3 H3 F3
      subst e3
      refine px (fun _ => k_Sh_fit_52 (kc1 := 0) (ks1 := 0) (kc := 0) (ks := 0) (av := [.int (nI t), .int (nI (max (gT S a 1) (gT S b 1))), .int (nI (max (gT S a 2) (gT S b 2)))]) (st := []) (H.2.2.2.2.2.2.1 o9 ho).2.1 (en3) rfl rfl (Nat.le_of_ble_eq_true rfl)) ?_
      refine pxb (fun _ => pm_if_eq (pc := 55) (tgt := 62) d_Sh_fit_55 (by decide)) (fun c_4 => ?_) (fun c_4 => ?_)
      · have n_c_4 : ¬ ((g_sh (t) (max (gT S a 1) (gT S b 1)) (max (gT S a 2) (gT S b 2))).isSome = true) := g_if0.mp c_4
        refine px (fun _ => pm_iconst (v := 0) (pc := 62) d_Sh_fit_62 rfl) ?_
        have fx : (gT S a 1 = gT S b 1 ∨ gT S a 1 = 1 ∨ gT S b 1 = 1) ∧ (gT S a 2 = gT S b 2 ∨ gT S a 2 = 1 ∨ gT S b 2 = 1) := by omega
        exact pxr (pm_iret (pc := 63) d_Sh_fit_63 rfl rfl) ⟨by rw [if_pos fx]; rw [if_neg n_c_4], by rw [if_pos fx]; exact H3, F3⟩
      · have n_c_4 : (g_sh (t) (max (gT S a 1) (gT S b 1)) (max (gT S a 2) (gT S b 2))).isSome = true := Decidable.byContradiction fun q => c_4 (g_if0.mpr q)
        refine px (fun _ => pm_iconst (v := 1) (pc := 58) d_Sh_fit_58 rfl) ?_
        refine px (fun _ => pm_goto (tgt := 63) (pc := 59) d_Sh_fit_59 (by decide)) ?_
        have fx : (gT S a 1 = gT S b 1 ∨ gT S a 1 = 1 ∨ gT S b 1 = 1) ∧ (gT S a 2 = gT S b 2 ∨ gT S a 2 = 1 ∨ gT S b 2 = 1) := by omega
        exact pxr (pm_iret (pc := 63) d_Sh_fit_63 rfl rfl) ⟨by rw [if_pos fx]; rw [if_pos n_c_4], by rw [if_pos fx]; exact H3, F3⟩
