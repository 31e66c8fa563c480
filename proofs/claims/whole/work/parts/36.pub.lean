/-! ===== the class: table, undo, node, slot, count ===== -/
abbrev g_unp (S : gS) : gS := g_clrN (g_clrN (gsG S 1 0) 5 0 (gG S 0)) 4 0 (gG S 0)
theorem gW.unp {S : gS} (hW : gW S) : gW (g_unp S) := by
  obtain ⟨b1, b2, b3, b4, b5, b6⟩ := hW
  exact gW.clrN (gW.clrN (show gW (gsG S 1 0) from ⟨b1, Nat.zero_le _, b3, b4, b5, b6⟩))
theorem c_isFree_ok {l : Launch} {G : pm_G} {fi : Bool} {h : pm_H} {S : gS} {j : Nat} (hl : l.stackTraces = false) (H : gH S h) (hW : gW S) (hj : j < 20) (hk : gK S j 0 = 0) : pm_En l G fi fi 0 0 M_Gr_isFree [.ref 0, .int (nI j)] h (.inl (some (.int 1)), h) := by
  have k := c_isFree_in (l := l) (G := G) (fi := fi) hl H hW hj
  rw [if_pos hk] at k
  exact k
theorem c_isSide_ok {l : Launch} {G : pm_G} {fi : Bool} {h : pm_H} {n : Nat} (hl : l.stackTraces = false) (hn : 1 ≤ n ∧ n ≤ 4) : pm_En l G fi fi 0 0 M_Gr_isSide [.int (nI n)] h (.inl (some (.int 1)), h) := by
  have k := c_isSide_N (l := l) (G := G) (fi := fi) (h := h) (n := n) hl (by omega)
  rw [if_pos hn] at k
  exact k
theorem c_shape_ok {l : Launch} {G : pm_G} {fi : Bool} {h : pm_H} {S : gS} {j t r c : Nat} (hl : l.stackTraces = false) (H : gH S h) (hW : gW S) (hj : j < 20) (hr : 1 ≤ r ∧ r ≤ 4) (hc : 1 ≤ c ∧ c ≤ 4) : pm_Cn l G fi fi 0 0 M_Tb_shape [.ref (8 + 3 * j), .int (nI t), .int (nI r), .int (nI c)] h (fun x => x.1 = .inl (some (.int 1)) ∧ gH (gsT (gsT (gsT S j 0 t) j 1 r) j 2 c) x.2 ∧ gFr h x.2) := by
  have k := c_shape (l := l) (G := G) (fi := fi) (t := t) hl H hW hj (r := r) (c := c) (by omega) (by omega)
  simp only [if_pos (show (1 ≤ r ∧ r ≤ 4) ∧ 1 ≤ c ∧ c ≤ 4 from ⟨hr, hc⟩)] at k
  exact k
set_option maxHeartbeats 4000000 in
set_option maxRecDepth 20000 in
theorem c_table_ok0 {l : Launch} {G : pm_G} {fi : Bool} {h : pm_H} {S : gS} {j t r c : Nat} (hl : l.stackTraces = false) (H : gH S h) (hW : gW S) (hj : j < 20) (hk : gK S j 0 = 0) (ht : t ≤ 1) (hr : 1 ≤ r ∧ r ≤ 4) (hc : 1 ≤ c ∧ c ≤ 4) : pm_Cn l G fi fi 0 0 M_Gr_table [.ref (0), .int (nI j), .int (nI t), .int (nI r), .int (nI c), .int (0)] h (fun x9 => x9.1 = .inl none ∧ gH (g_unp (gsC (gsT (gsT (gsT (gsK S j 0 1) j 0 t) j 1 r) j 2 c) j (g_z16 (gC (gsT (gsT (gsT (gsK S j 0 1) j 0 t) j 1 r) j 2 c) j) 0))) x9.2 ∧ gFr h x9.2) := by
  refine pm_Cn.of hl (by decide) (Nat.le_of_ble_eq_true rfl) ?_
  have hW1 : gW (gsK S j 0 1) := hW.K (by omega)
  have hW2 : gW (gsT (gsT (gsT (gsK S j 0 1) j 0 t) j 1 r) j 2 c) := hW1.T ht hr hc
  refine px (fun _ => pm_aload_n (pc := 0) d_Gr_table_0 rfl) ?_
  refine px (fun _ => pm_iload_n (pc := 1) d_Gr_table_1 rfl) ?_
  refine px (fun _ => k_Gr_table_2 (kc1 := 0) (ks1 := 0) (kc := 0) (ks := 0) (av := [.int (nI j)]) (st := []) H.1 (c_isFree_ok hl H hW hj hk) rfl rfl (Nat.le_of_ble_eq_true rfl)) ?_
  refine pxb (fun _ => pm_if_eq (pc := 5) (tgt := 30) d_Gr_table_5 (by decide)) (fun c_1 => absurd c_1 (by decide)) (fun c_1 => ?_)
  refine px (fun _ => pm_iload_n (pc := 8) d_Gr_table_8 rfl) ?_
  refine px (fun _ => k_Gr_table_9 (kc1 := 0) (ks1 := 0) (kc := 0) (ks := 0) (av := [.int (nI t)]) (st := []) (c_isType_ok hl ht) rfl rfl (Nat.le_of_ble_eq_true rfl)) ?_
  refine pxb (fun _ => pm_if_eq (pc := 12) (tgt := 30) d_Gr_table_12 (by decide)) (fun c_2 => absurd c_2 (by decide)) (fun c_2 => ?_)
  refine px (fun _ => pm_iload_n (pc := 15) d_Gr_table_15 rfl) ?_
  refine px (fun _ => k_Gr_table_16 (kc1 := 0) (ks1 := 0) (kc := 0) (ks := 0) (av := [.int (nI r)]) (st := []) (c_isSide_ok hl hr) rfl rfl (Nat.le_of_ble_eq_true rfl)) ?_
  refine pxb (fun _ => pm_if_eq (pc := 19) (tgt := 30) d_Gr_table_19 (by decide)) (fun c_3 => absurd c_3 (by decide)) (fun c_3 => ?_)
  refine px (fun _ => pm_iload (pc := 22) d_Gr_table_22 rfl) ?_
  refine px (fun _ => k_Gr_table_24 (kc1 := 0) (ks1 := 0) (kc := 0) (ks := 0) (av := [.int (nI c)]) (st := []) (c_isSide_ok hl hc) rfl rfl (Nat.le_of_ble_eq_true rfl)) ?_
  refine pxn (fun _ => pm_if_ne (pc := 27) (tgt := 38) d_Gr_table_27 (by decide)) (fun c_4 => ?_) (fun c_4 => absurd c_4 (by decide))
  refine px (fun _ => pm_aload_n (pc := 38) d_Gr_table_38 rfl) ?_
  refine px (fun _ => pm_getf fl_Gr_11 (pc := 39) d_Gr_table_39 H.1 rfl) ?_
  refine px (fun _ => pm_iload_n (pc := 42) d_Gr_table_42 rfl) ?_
  obtain ⟨f_5, hf_6, gf_7⟩ := id H.2.1
  refine px (fun _ => pm_aald (kd := 3) (Cn := "GraphRunner$Slot") (j := j) (pc := 43) d_Gr_table_43 (fun _ => rfl) hf_6 (rfl) (hj) (by decide) (gf_7 j hj)) ?_
  refine px (fun _ => pm_iload (pc := 44) d_Gr_table_44 rfl) ?_
  refine pxb (fun _ => pm_if_eq (pc := 46) (tgt := 53) d_Gr_table_46 (by decide)) (fun c_8 => ?_) (fun c_8 => absurd (by decide) c_8)
  refine px (fun _ => pm_iconst (v := 1) (pc := 53) d_Gr_table_53 rfl) ?_
  refine px (fun _ => pm_putfC (c' := pm_Ob 1 [.ref (8 + 3 * j), .int (1), .int (nI (gK S j 1))]) fp_Gr_64 (pc := 54) d_Gr_table_54 (H.2.2.2.2.2.2.1 j hj).1 (Nat.le_of_ble_eq_true rfl) rfl rfl rfl) ?_
  have H_9 : gH (gsK S j 0 1) (h.set (7 + 3 * j) (pm_Ob 1 [.ref (8 + 3 * j), .int (1), .int (nI (gK S j 1))])) := H.K0 (i := j) (v := 1) hj
  refine px (fun _ => pm_aload_n (pc := 57) d_Gr_table_57 rfl) ?_
  refine px (fun _ => pm_getf fl_Gr_11 (pc := 58) d_Gr_table_58 H_9.1 rfl) ?_
  refine px (fun _ => pm_iload_n (pc := 61) d_Gr_table_61 rfl) ?_
  obtain ⟨f_10, hf_11, gf_12⟩ := id H_9.2.1
  refine px (fun _ => pm_aald (kd := 3) (Cn := "GraphRunner$Slot") (j := j) (pc := 62) d_Gr_table_62 (fun _ => rfl) hf_11 (rfl) (hj) (by decide) (gf_12 j hj)) ?_
  refine px (fun _ => pm_getf fl_Gr_67 (pc := 63) d_Gr_table_63 (H_9.2.2.2.2.2.2.1 j hj).1 rfl) ?_
  refine px (fun _ => pm_iload_n (pc := 66) d_Gr_table_66 rfl) ?_
  refine px (fun _ => pm_iload_n (pc := 67) d_Gr_table_67 rfl) ?_
  refine px (fun _ => pm_iload (pc := 68) d_Gr_table_68 rfl) ?_
  obtain ⟨⟨o13, h13⟩, ⟨e13, H13, F13⟩, en13⟩ := c_shape_ok (l := l) (G := G) (fi := fi) (t := t) hl H_9 hW1 hj hr hc
  dsimp only at e13 H13 F13
  subst e13
  refine px (fun _ => k_Gr_table_70 (kc1 := 0) (ks1 := 0) (kc := 0) (ks := 0) (av := [.int (nI t), .int (nI r), .int (nI c)]) (st := []) (H_9.2.2.2.2.2.2.1 j hj).2.1 (en13) rfl rfl (Nat.le_of_ble_eq_true rfl)) ?_
  refine px (fun _ => pm_pop (pc := 73) d_Gr_table_73 rfl) ?_
  refine px (fun _ => pm_aload_n (pc := 74) d_Gr_table_74 rfl) ?_
  refine px (fun _ => pm_getf fl_Gr_11 (pc := 75) d_Gr_table_75 H13.1 rfl) ?_
  refine px (fun _ => pm_iload_n (pc := 78) d_Gr_table_78 rfl) ?_
  obtain ⟨f_14, hf_15, gf_16⟩ := id H13.2.1
  refine px (fun _ => pm_aald (kd := 3) (Cn := "GraphRunner$Slot") (j := j) (pc := 79) d_Gr_table_79 (fun _ => rfl) hf_15 (rfl) (hj) (by decide) (gf_16 j hj)) ?_
  refine px (fun _ => pm_getf fl_Gr_67 (pc := 80) d_Gr_table_80 (H13.2.2.2.2.2.2.1 j hj).1 rfl) ?_
  obtain ⟨⟨o17, h17⟩, ⟨e17, H17, F17⟩, en17⟩ := c_clear (l := l) (G := G) (fi := fi) hl H13 hW2 hj
  dsimp only at e17 H17 F17
  subst e17
  refine px (fun _ => k_Gr_table_83 (kc1 := 0) (ks1 := 0) (kc := 0) (ks := 0) (av := []) (st := []) (H13.2.2.2.2.2.2.1 j hj).2.1 (en17) rfl rfl (Nat.le_of_ble_eq_true rfl)) ?_
  refine px (fun _ => pm_aload_n (pc := 86) d_Gr_table_86 rfl) ?_
  obtain ⟨⟨o18, h18⟩, ⟨e18, H18, F18⟩, en18⟩ := c_unprep (l := l) (G := G) (fi := fi) hl H17 hW2.C
  dsimp only at e18 H18 F18
  subst e18
  refine px (fun _ => k_Gr_table_87 (kc1 := 0) (ks1 := 0) (kc := 0) (ks := 0) (av := []) (st := []) H17.1 (en18) rfl rfl (Nat.le_of_ble_eq_true rfl)) ?_
  exact pxr (pm_vret (pc := 90) d_Gr_table_90 rfl) ⟨rfl, H18, ((gFr.set _ _ (by omega))).tr ((F13).tr ((F17).tr (F18)))⟩
set_option maxHeartbeats 4000000 in
set_option maxRecDepth 20000 in
theorem c_table_ok1 {l : Launch} {G : pm_G} {fi : Bool} {h : pm_H} {S : gS} {j t r c : Nat} (hl : l.stackTraces = false) (H : gH S h) (hW : gW S) (hj : j < 20) (hk : gK S j 0 = 0) (ht : t ≤ 1) (hr : 1 ≤ r ∧ r ≤ 4) (hc : 1 ≤ c ∧ c ≤ 4) : pm_Cn l G fi fi 0 0 M_Gr_table [.ref (0), .int (nI j), .int (nI t), .int (nI r), .int (nI c), .int (1)] h (fun x9 => x9.1 = .inl none ∧ gH (g_unp (gsC (gsT (gsT (gsT (gsK S j 0 2) j 0 t) j 1 r) j 2 c) j (g_z16 (gC (gsT (gsT (gsT (gsK S j 0 2) j 0 t) j 1 r) j 2 c) j) 0))) x9.2 ∧ gFr h x9.2) := by
  refine pm_Cn.of hl (by decide) (Nat.le_of_ble_eq_true rfl) ?_
  have hW1 : gW (gsK S j 0 2) := hW.K (by omega)
  have hW2 : gW (gsT (gsT (gsT (gsK S j 0 2) j 0 t) j 1 r) j 2 c) := hW1.T ht hr hc
  refine px (fun _ => pm_aload_n (pc := 0) d_Gr_table_0 rfl) ?_
  refine px (fun _ => pm_iload_n (pc := 1) d_Gr_table_1 rfl) ?_
  refine px (fun _ => k_Gr_table_2 (kc1 := 0) (ks1 := 0) (kc := 0) (ks := 0) (av := [.int (nI j)]) (st := []) H.1 (c_isFree_ok hl H hW hj hk) rfl rfl (Nat.le_of_ble_eq_true rfl)) ?_
  refine pxb (fun _ => pm_if_eq (pc := 5) (tgt := 30) d_Gr_table_5 (by decide)) (fun c_1 => absurd c_1 (by decide)) (fun c_1 => ?_)
  refine px (fun _ => pm_iload_n (pc := 8) d_Gr_table_8 rfl) ?_
  refine px (fun _ => k_Gr_table_9 (kc1 := 0) (ks1 := 0) (kc := 0) (ks := 0) (av := [.int (nI t)]) (st := []) (c_isType_ok hl ht) rfl rfl (Nat.le_of_ble_eq_true rfl)) ?_
  refine pxb (fun _ => pm_if_eq (pc := 12) (tgt := 30) d_Gr_table_12 (by decide)) (fun c_2 => absurd c_2 (by decide)) (fun c_2 => ?_)
  refine px (fun _ => pm_iload_n (pc := 15) d_Gr_table_15 rfl) ?_
  refine px (fun _ => k_Gr_table_16 (kc1 := 0) (ks1 := 0) (kc := 0) (ks := 0) (av := [.int (nI r)]) (st := []) (c_isSide_ok hl hr) rfl rfl (Nat.le_of_ble_eq_true rfl)) ?_
  refine pxb (fun _ => pm_if_eq (pc := 19) (tgt := 30) d_Gr_table_19 (by decide)) (fun c_3 => absurd c_3 (by decide)) (fun c_3 => ?_)
  refine px (fun _ => pm_iload (pc := 22) d_Gr_table_22 rfl) ?_
  refine px (fun _ => k_Gr_table_24 (kc1 := 0) (ks1 := 0) (kc := 0) (ks := 0) (av := [.int (nI c)]) (st := []) (c_isSide_ok hl hc) rfl rfl (Nat.le_of_ble_eq_true rfl)) ?_
  refine pxn (fun _ => pm_if_ne (pc := 27) (tgt := 38) d_Gr_table_27 (by decide)) (fun c_4 => ?_) (fun c_4 => absurd c_4 (by decide))
  refine px (fun _ => pm_aload_n (pc := 38) d_Gr_table_38 rfl) ?_
  refine px (fun _ => pm_getf fl_Gr_11 (pc := 39) d_Gr_table_39 H.1 rfl) ?_
  refine px (fun _ => pm_iload_n (pc := 42) d_Gr_table_42 rfl) ?_
  obtain ⟨f_5, hf_6, gf_7⟩ := id H.2.1
  refine px (fun _ => pm_aald (kd := 3) (Cn := "GraphRunner$Slot") (j := j) (pc := 43) d_Gr_table_43 (fun _ => rfl) hf_6 (rfl) (hj) (by decide) (gf_7 j hj)) ?_
  refine px (fun _ => pm_iload (pc := 44) d_Gr_table_44 rfl) ?_
  refine pxb (fun _ => pm_if_eq (pc := 46) (tgt := 53) d_Gr_table_46 (by decide)) (fun c_8 => absurd c_8 (by decide)) (fun c_8 => ?_)
  refine px (fun _ => pm_iconst (v := 2) (pc := 49) d_Gr_table_49 rfl) ?_
  refine px (fun _ => pm_goto (tgt := 54) (pc := 50) d_Gr_table_50 (by decide)) ?_
  refine px (fun _ => pm_putfC (c' := pm_Ob 1 [.ref (8 + 3 * j), .int (2), .int (nI (gK S j 1))]) fp_Gr_64 (pc := 54) d_Gr_table_54 (H.2.2.2.2.2.2.1 j hj).1 (Nat.le_of_ble_eq_true rfl) rfl rfl rfl) ?_
  have H_9 : gH (gsK S j 0 2) (h.set (7 + 3 * j) (pm_Ob 1 [.ref (8 + 3 * j), .int (2), .int (nI (gK S j 1))])) := H.K0 (i := j) (v := 2) hj
  refine px (fun _ => pm_aload_n (pc := 57) d_Gr_table_57 rfl) ?_
  refine px (fun _ => pm_getf fl_Gr_11 (pc := 58) d_Gr_table_58 H_9.1 rfl) ?_
  refine px (fun _ => pm_iload_n (pc := 61) d_Gr_table_61 rfl) ?_
  obtain ⟨f_10, hf_11, gf_12⟩ := id H_9.2.1
  refine px (fun _ => pm_aald (kd := 3) (Cn := "GraphRunner$Slot") (j := j) (pc := 62) d_Gr_table_62 (fun _ => rfl) hf_11 (rfl) (hj) (by decide) (gf_12 j hj)) ?_
  refine px (fun _ => pm_getf fl_Gr_67 (pc := 63) d_Gr_table_63 (H_9.2.2.2.2.2.2.1 j hj).1 rfl) ?_
  refine px (fun _ => pm_iload_n (pc := 66) d_Gr_table_66 rfl) ?_
  refine px (fun _ => pm_iload_n (pc := 67) d_Gr_table_67 rfl) ?_
  refine px (fun _ => pm_iload (pc := 68) d_Gr_table_68 rfl) ?_
  obtain ⟨⟨o13, h13⟩, ⟨e13, H13, F13⟩, en13⟩ := c_shape_ok (l := l) (G := G) (fi := fi) (t := t) hl H_9 hW1 hj hr hc
  dsimp only at e13 H13 F13
  subst e13
  refine px (fun _ => k_Gr_table_70 (kc1 := 0) (ks1 := 0) (kc := 0) (ks := 0) (av := [.int (nI t), .int (nI r), .int (nI c)]) (st := []) (H_9.2.2.2.2.2.2.1 j hj).2.1 (en13) rfl rfl (Nat.le_of_ble_eq_true rfl)) ?_
  refine px (fun _ => pm_pop (pc := 73) d_Gr_table_73 rfl) ?_
  refine px (fun _ => pm_aload_n (pc := 74) d_Gr_table_74 rfl) ?_
  refine px (fun _ => pm_getf fl_Gr_11 (pc := 75) d_Gr_table_75 H13.1 rfl) ?_
  refine px (fun _ => pm_iload_n (pc := 78) d_Gr_table_78 rfl) ?_
  obtain ⟨f_14, hf_15, gf_16⟩ := id H13.2.1
  refine px (fun _ => pm_aald (kd := 3) (Cn := "GraphRunner$Slot") (j := j) (pc := 79) d_Gr_table_79 (fun _ => rfl) hf_15 (rfl) (hj) (by decide) (gf_16 j hj)) ?_
  refine px (fun _ => pm_getf fl_Gr_67 (pc := 80) d_Gr_table_80 (H13.2.2.2.2.2.2.1 j hj).1 rfl) ?_
  obtain ⟨⟨o17, h17⟩, ⟨e17, H17, F17⟩, en17⟩ := c_clear (l := l) (G := G) (fi := fi) hl H13 hW2 hj
  dsimp only at e17 H17 F17
  subst e17
  refine px (fun _ => k_Gr_table_83 (kc1 := 0) (ks1 := 0) (kc := 0) (ks := 0) (av := []) (st := []) (H13.2.2.2.2.2.2.1 j hj).2.1 (en17) rfl rfl (Nat.le_of_ble_eq_true rfl)) ?_
  refine px (fun _ => pm_aload_n (pc := 86) d_Gr_table_86 rfl) ?_
  obtain ⟨⟨o18, h18⟩, ⟨e18, H18, F18⟩, en18⟩ := c_unprep (l := l) (G := G) (fi := fi) hl H17 hW2.C
  dsimp only at e18 H18 F18
  subst e18
  refine px (fun _ => k_Gr_table_87 (kc1 := 0) (ks1 := 0) (kc := 0) (ks := 0) (av := []) (st := []) H17.1 (en18) rfl rfl (Nat.le_of_ble_eq_true rfl)) ?_
  exact pxr (pm_vret (pc := 90) d_Gr_table_90 rfl) ⟨rfl, H18, ((gFr.set _ _ (by omega))).tr ((F13).tr ((F17).tr (F18)))⟩

set_option maxHeartbeats 4000000 in
set_option maxRecDepth 20000 in
theorem c_table_out {l : Launch} {G : pm_G} {fi : Bool} {h : pm_H} {S : gS} {s ty rw cl kf : Int32} (hl : l.stackTraces = false) (H : gH S h) (hs : s < 0 ∨ 20 ≤ s) : pm_En l G fi false 1 6 M_Gr_table [.ref (0), .int (s), .int (ty), .int (rw), .int (cl), .int (kf)] h (.inr "java/lang/IllegalArgumentException", h) := by
  refine pm_Cn.eq (pm_Cn.of hl (by decide) (Nat.le_of_ble_eq_true rfl) ?_)
  refine px (fun _ => pm_aload_n (pc := 0) d_Gr_table_0 rfl) ?_
  refine px (fun _ => pm_iload_n (pc := 1) d_Gr_table_1 rfl) ?_
  refine px (fun _ => k_Gr_table_2 (kc1 := 0) (ks1 := 0) (kc := 1) (ks := 6) (av := [.int (s)]) (st := []) H.1 (c_isFree_out hl hs) rfl rfl (Nat.le_of_ble_eq_true rfl)) ?_
  refine pxb (fun _ => pm_if_eq (pc := 5) (tgt := 30) d_Gr_table_5 (by decide)) (fun c_1 => ?_) (fun c_1 => absurd (by decide) c_1)
  exact pxr x_Gr_table_30 rfl
set_option maxHeartbeats 4000000 in
set_option maxRecDepth 20000 in
theorem c_table_bad {l : Launch} {G : pm_G} {fi : Bool} {h : pm_H} {S : gS} {j : Nat} {ty rw cl kf : Int32} (hl : l.stackTraces = false) (H : gH S h) (hW : gW S) (hj : j < 20) (hb : ¬ (gK S j 0 = 0 ∧ (ty = 0 ∨ ty = 1) ∧ (¬ rw < 1 ∧ ¬ 4 < rw) ∧ (¬ cl < 1 ∧ ¬ 4 < cl))) : pm_En l G fi false 1 6 M_Gr_table [.ref (0), .int (nI j), .int (ty), .int (rw), .int (cl), .int (kf)] h (.inr "java/lang/IllegalArgumentException", h) := by
  refine pm_Cn.eq (pm_Cn.of hl (by decide) (Nat.le_of_ble_eq_true rfl) ?_)
  refine px (fun _ => pm_aload_n (pc := 0) d_Gr_table_0 rfl) ?_
  refine px (fun _ => pm_iload_n (pc := 1) d_Gr_table_1 rfl) ?_
  refine px (fun _ => k_Gr_table_2 (kc1 := 0) (ks1 := 0) (kc := 1) (ks := 6) (av := [.int (nI j)]) (st := []) H.1 (c_isFree_in hl H hW hj) rfl rfl (Nat.le_of_ble_eq_true rfl)) ?_
  refine pxb (fun _ => pm_if_eq (pc := 5) (tgt := 30) d_Gr_table_5 (by decide)) (fun c_1 => ?_) (fun c_1 => ?_)
  · have n_c_1 : ¬ (gK S j 0 = 0) := g_if0.mp c_1
    exact pxr x_Gr_table_30 rfl
  · have n_c_1 : gK S j 0 = 0 := Decidable.byContradiction fun q => c_1 (g_if0.mpr q)
    refine px (fun _ => pm_iload_n (pc := 8) d_Gr_table_8 rfl) ?_
    refine px (fun _ => k_Gr_table_9 (kc1 := 0) (ks1 := 0) (kc := 1) (ks := 6) (av := [.int (ty)]) (st := []) (c_Gr_isType hl) rfl rfl (Nat.le_of_ble_eq_true rfl)) ?_
    refine pxb (fun _ => pm_if_eq (pc := 12) (tgt := 30) d_Gr_table_12 (by decide)) (fun c_2 => ?_) (fun c_2 => ?_)
    · have n_c_2 : ¬ (ty = 0 ∨ ty = 1) := g_if0.mp c_2
      exact pxr x_Gr_table_30 rfl
    · have n_c_2 : ty = 0 ∨ ty = 1 := Decidable.byContradiction fun q => c_2 (g_if0.mpr q)
      refine px (fun _ => pm_iload_n (pc := 15) d_Gr_table_15 rfl) ?_
      refine px (fun _ => k_Gr_table_16 (kc1 := 0) (ks1 := 0) (kc := 1) (ks := 6) (av := [.int (rw)]) (st := []) (c_Gr_isSide hl) rfl rfl (Nat.le_of_ble_eq_true rfl)) ?_
      refine pxb (fun _ => pm_if_eq (pc := 19) (tgt := 30) d_Gr_table_19 (by decide)) (fun c_3 => ?_) (fun c_3 => ?_)
      · have n_c_3 : ¬ (¬ rw < 1 ∧ ¬ 4 < rw) := g_if0.mp c_3
        exact pxr x_Gr_table_30 rfl
      · have n_c_3 : ¬ rw < 1 ∧ ¬ 4 < rw := Decidable.byContradiction fun q => c_3 (g_if0.mpr q)
        refine px (fun _ => pm_iload (pc := 22) d_Gr_table_22 rfl) ?_
        refine px (fun _ => k_Gr_table_24 (kc1 := 0) (ks1 := 0) (kc := 1) (ks := 6) (av := [.int (cl)]) (st := []) (c_Gr_isSide hl) rfl rfl (Nat.le_of_ble_eq_true rfl)) ?_
        refine pxn (fun _ => pm_if_ne (pc := 27) (tgt := 38) d_Gr_table_27 (by decide)) (fun c_4 => ?_) (fun c_4 => ?_)
        · have n_c_4 : ¬ cl < 1 ∧ ¬ 4 < cl := Decidable.byContradiction fun q => c_4 (g_if0.mpr q)
          exact absurd ⟨by assumption, by assumption, by assumption, by assumption⟩ hb
        · have n_c_4 : ¬ (¬ cl < 1 ∧ ¬ 4 < cl) := g_if0.mp c_4
          exact pxr x_Gr_table_30 rfl
theorem gW.G {S : gS} (hW : gW S) {k v : Nat} (hv : (k = 0 → v ≤ 14) ∧ (k = 1 → v ≤ 1)) : gW (gsG S k v) := by
  obtain ⟨b1, b2, b3, b4, b5, b6⟩ := hW
  refine ⟨?_, ?_, b3, b4, b5, b6⟩
  · simp only [gsG, gG, va_up]
    split
    · exact hv.1 (by omega)
    · exact b1
  · simp only [gsG, gG, va_up]
    split
    · exact hv.2 (by omega)
    · exact b2
set_option maxHeartbeats 4000000 in
set_option maxRecDepth 20000 in
theorem c_undo_ok {l : Launch} {G : pm_G} {fi : Bool} {h : pm_H} {S : gS}  (hl : l.stackTraces = false) (H : gH S h) (hW : gW S) (hn0 : 0 < gG S 0) : pm_Cn l G fi fi 0 0 M_Gr_undo [.ref (0)] h (fun x9 => x9.1 = .inl none ∧ gH (gsK (gsG (g_unp S) 0 ((gG (g_unp S) 0) - 1)) (gN (gsG (g_unp S) 0 ((gG (g_unp S) 0) - 1)) (gG (gsG (g_unp S) 0 ((gG (g_unp S) 0) - 1)) 0) 2) 0 0) x9.2 ∧ gFr h x9.2) := by
  refine pm_Cn.of hl (by decide) (Nat.le_of_ble_eq_true rfl) ?_
  obtain ⟨b1, b2, b3, b4, b5, b6⟩ := id hW
  have hn : gG (gsG (g_unp S) 0 ((gG (g_unp S) 0) - 1)) 0 < 14 := by simp only [gsG, gG, va_up]; simp; show gG S 0 - 1 < 14; omega
  have ho : gN (gsG (g_unp S) 0 ((gG (g_unp S) 0) - 1)) (gG (gsG (g_unp S) 0 ((gG (g_unp S) 0) - 1)) 0) 2 < 20 := (hW.unp.2.2.2.2.2 _ hn).2.2.1
  refine px (fun _ => pm_aload_n (pc := 0) d_Gr_undo_0 rfl) ?_
  refine px (fun _ => pm_getf fl_Gr_35 (pc := 1) d_Gr_undo_1 H.1 rfl) ?_
  refine pxn (fun _ => pm_if_ne (pc := 4) (tgt := 15) d_Gr_undo_4 (by decide)) (fun c_1 => ?_) (fun c_1 => absurd c_1 (fun q => absurd ((nI_eq (a := gG S 0) (b := 0) (by omega) (by omega)).mp q) (by omega)))
  refine px (fun _ => pm_aload_n (pc := 15) d_Gr_undo_15 rfl) ?_
  obtain ⟨⟨o2, h2⟩, ⟨e2, H2, F2⟩, en2⟩ := c_unprep (l := l) (G := G) (fi := fi) hl H hW
  dsimp only at e2 H2 F2
  subst e2
  refine px (fun _ => k_Gr_undo_16 (kc1 := 0) (ks1 := 0) (kc := 0) (ks := 0) (av := []) (st := []) H.1 (en2) rfl rfl (Nat.le_of_ble_eq_true rfl)) ?_
  refine px (fun _ => pm_aload_n (pc := 19) d_Gr_undo_19 rfl) ?_
  refine px (fun _ => pm_dup (pc := 20) d_Gr_undo_20 rfl) ?_
  refine px (fun _ => pm_getf fl_Gr_35 (pc := 21) d_Gr_undo_21 H2.1 rfl) ?_
  refine px (fun _ => pm_iconst (v := 1) (pc := 24) d_Gr_undo_24 rfl) ?_
  refine px (fun _ => pm_isubN (a := (gG (g_unp S) 0)) (b := 1) (pc := 25) d_Gr_undo_25 (by show 1 ≤ gG S 0; omega)) ?_
  refine px (fun _ => pm_putfC (c' := pm_Ob 3 [.ref (1), .ref (2), .ref (3), .ref (4), .ref (5), .int (nI ((gG (g_unp S) 0) - 1)), .int (nI (gG (g_unp S) 1)), .int (nI (gG (g_unp S) 2)), .int (nI (gG (g_unp S) 3))]) fp_Gr_35 (pc := 26) d_Gr_undo_26 H2.1 (Nat.le_of_ble_eq_true rfl) rfl rfl rfl) ?_
  have H_3 : gH (gsG (g_unp S) 0 ((gG (g_unp S) 0) - 1)) (h2.set (0) (pm_Ob 3 [.ref (1), .ref (2), .ref (3), .ref (4), .ref (5), .int (nI ((gG (g_unp S) 0) - 1)), .int (nI (gG (g_unp S) 1)), .int (nI (gG (g_unp S) 2)), .int (nI (gG (g_unp S) 3))])) := H2.G0 (v := ((gG (g_unp S) 0) - 1))
  refine px (fun _ => pm_aload_n (pc := 29) d_Gr_undo_29 rfl) ?_
  refine px (fun _ => pm_getf fl_Gr_11 (pc := 30) d_Gr_undo_30 H_3.1 rfl) ?_
  refine px (fun _ => pm_aload_n (pc := 33) d_Gr_undo_33 rfl) ?_
  refine px (fun _ => pm_getf fl_Gr_17 (pc := 34) d_Gr_undo_34 H_3.1 rfl) ?_
  refine px (fun _ => pm_aload_n (pc := 37) d_Gr_undo_37 rfl) ?_
  refine px (fun _ => pm_getf fl_Gr_35 (pc := 38) d_Gr_undo_38 H_3.1 rfl) ?_
  obtain ⟨f_4, hf_5, gf_6⟩ := id H_3.2.2.1
  refine px (fun _ => pm_aald (kd := 4) (Cn := "GraphRunner$Node") (j := gG (gsG (g_unp S) 0 ((gG (g_unp S) 0) - 1)) 0) (pc := 41) d_Gr_undo_41 (fun _ => rfl) hf_5 (rfl) (hn) (by decide) (gf_6 (gG (gsG (g_unp S) 0 ((gG (g_unp S) 0) - 1)) 0) hn)) ?_
  refine px (fun _ => pm_getf fl_Gr_131 (pc := 42) d_Gr_undo_42 (H_3.2.2.2.2.2.2.2 (gG (gsG (g_unp S) 0 ((gG (g_unp S) 0) - 1)) 0) hn).1 rfl) ?_
  obtain ⟨f_7, hf_8, gf_9⟩ := id H_3.2.1
  refine px (fun _ => pm_aald (kd := 3) (Cn := "GraphRunner$Slot") (j := gN (gsG (g_unp S) 0 ((gG (g_unp S) 0) - 1)) (gG (gsG (g_unp S) 0 ((gG (g_unp S) 0) - 1)) 0) 2) (pc := 45) d_Gr_undo_45 (fun _ => rfl) hf_8 (rfl) (ho) (by decide) (gf_9 (gN (gsG (g_unp S) 0 ((gG (g_unp S) 0) - 1)) (gG (gsG (g_unp S) 0 ((gG (g_unp S) 0) - 1)) 0) 2) ho)) ?_
  refine px (fun _ => pm_iconst (v := 0) (pc := 46) d_Gr_undo_46 rfl) ?_
  refine px (fun _ => pm_putfC (c' := pm_Ob 1 [.ref (8 + 3 * gN (gsG (g_unp S) 0 ((gG (g_unp S) 0) - 1)) (gG (gsG (g_unp S) 0 ((gG (g_unp S) 0) - 1)) 0) 2), .int (0), .int (nI (gK (gsG (g_unp S) 0 ((gG (g_unp S) 0) - 1)) (gN (gsG (g_unp S) 0 ((gG (g_unp S) 0) - 1)) (gG (gsG (g_unp S) 0 ((gG (g_unp S) 0) - 1)) 0) 2) 1))]) fp_Gr_64 (pc := 47) d_Gr_undo_47 (H_3.2.2.2.2.2.2.1 (gN (gsG (g_unp S) 0 ((gG (g_unp S) 0) - 1)) (gG (gsG (g_unp S) 0 ((gG (g_unp S) 0) - 1)) 0) 2) ho).1 (Nat.le_of_ble_eq_true rfl) rfl rfl rfl) ?_
  have H_10 : gH (gsK (gsG (g_unp S) 0 ((gG (g_unp S) 0) - 1)) (gN (gsG (g_unp S) 0 ((gG (g_unp S) 0) - 1)) (gG (gsG (g_unp S) 0 ((gG (g_unp S) 0) - 1)) 0) 2) 0 0) ((h2.set (0) (pm_Ob 3 [.ref (1), .ref (2), .ref (3), .ref (4), .ref (5), .int (nI ((gG (g_unp S) 0) - 1)), .int (nI (gG (g_unp S) 1)), .int (nI (gG (g_unp S) 2)), .int (nI (gG (g_unp S) 3))])).set (7 + 3 * gN (gsG (g_unp S) 0 ((gG (g_unp S) 0) - 1)) (gG (gsG (g_unp S) 0 ((gG (g_unp S) 0) - 1)) 0) 2) (pm_Ob 1 [.ref (8 + 3 * gN (gsG (g_unp S) 0 ((gG (g_unp S) 0) - 1)) (gG (gsG (g_unp S) 0 ((gG (g_unp S) 0) - 1)) 0) 2), .int (0), .int (nI (gK (gsG (g_unp S) 0 ((gG (g_unp S) 0) - 1)) (gN (gsG (g_unp S) 0 ((gG (g_unp S) 0) - 1)) (gG (gsG (g_unp S) 0 ((gG (g_unp S) 0) - 1)) 0) 2) 1))])) := H_3.K0 (i := gN (gsG (g_unp S) 0 ((gG (g_unp S) 0) - 1)) (gG (gsG (g_unp S) 0 ((gG (g_unp S) 0) - 1)) 0) 2) (v := 0) ho
  exact pxr (pm_vret (pc := 50) d_Gr_undo_50 rfl) ⟨rfl, H_10, (F2).tr (((gFr.set _ _ (by omega))).tr ((gFr.set _ _ (by omega))))⟩
