/-! ===== the class: prepare ===== -/
abbrev g_o1 (S : gS) : Bool × gS := g_ordL (gG S 0) (gG S 0) 0 (g_clrN S 3 0 (gG S 0))
set_option maxHeartbeats 4000000 in
set_option maxRecDepth 20000 in
theorem c_prep_r {l : Launch} {G : pm_G} {fi : Bool} {h : pm_H} {S : gS}  (hl : l.stackTraces = false) (H : gH S h) (hW : gW S) (hr : gG S 1 = 1) : pm_Cn l G fi fi 0 0 M_Gr_prepare [.ref 0] h (fun r => r.1 = .inl (some (.int (nI (g_cnt (fun n => gN S n 4) 0 (gG S 0))))) ∧ gH S r.2 ∧ gFr h r.2) := by
  refine pm_Cn.of hl (by decide) (Nat.le_of_ble_eq_true rfl) ?_
  refine px (fun _ => pm_aload_n (pc := 0) d_Gr_prepare_0 rfl) ?_
  refine px (fun _ => pm_getf fl_Gr_39 (pc := 1) d_Gr_prepare_1 H.1 rfl) ?_
  refine pxn (fun _ => pm_if_ne (pc := 4) (tgt := 46) d_Gr_prepare_4 (by decide)) (fun c_1 => ?_) (fun c_1 => absurd c_1 (by rw [hr]; decide))
  refine px (fun _ => pm_aload_n (pc := 46) d_Gr_prepare_46 rfl) ?_
  refine px (fun _ => k_Gr_prepare_47 (kc1 := 0) (ks1 := 0) (kc := 0) (ks := 0) (av := []) (st := []) H.1 (c_folded hl H hW) rfl rfl (Nat.le_of_ble_eq_true rfl)) ?_
  exact pxr (pm_iret (pc := 50) d_Gr_prepare_50 rfl rfl) ⟨rfl, H, gFr.rf h⟩
set_option maxHeartbeats 4000000 in
set_option maxRecDepth 20000 in
theorem c_prep_o {l : Launch} {G : pm_G} {fi : Bool} {h : pm_H} {S : gS}  (hl : l.stackTraces = false) (H : gH S h) (hW : gW S) (hV : gV S) (hr : gG S 1 = 0) (eo : ¬ (g_o1 S).1 = true) : pm_Cn l G fi false 1 6 M_Gr_prepare [.ref 0] h (fun r => r.1 = .inr "java/util/NoSuchElementException" ∧ gH (g_o1 S).2 r.2 ∧ gFr h r.2) := by
  refine pm_Cn.of hl (by decide) (Nat.le_of_ble_eq_true rfl) ?_
  refine px (fun _ => pm_aload_n (pc := 0) d_Gr_prepare_0 rfl) ?_
  refine px (fun _ => pm_getf fl_Gr_39 (pc := 1) d_Gr_prepare_1 H.1 rfl) ?_
  refine pxn (fun _ => pm_if_ne (pc := 4) (tgt := 46) d_Gr_prepare_4 (by decide)) (fun c_1 => absurd (by rw [hr]; rfl) c_1) (fun c_1 => ?_)
  refine px (fun _ => pm_aload_n (pc := 7) d_Gr_prepare_7 rfl) ?_
  obtain ⟨⟨o1, h1⟩, ⟨e1, H1, F1⟩, en1⟩ := c_orderNodes (l := l) (G := G) (fi := fi) hl H hW hV
  dsimp only at e1 H1 F1
  rw [if_neg eo] at e1
  subst e1
  refine px (fun _ => k_Gr_prepare_8 (kc1 := 0) (ks1 := 0) (kc := 1) (ks := 6) (av := []) (st := []) H.1 (en1) rfl rfl (Nat.le_of_ble_eq_true rfl)) ?_
  refine pxn (fun _ => pm_if_ne (pc := 11) (tgt := 22) d_Gr_prepare_11 (by decide)) (fun c_2 => absurd (by decide) c_2) (fun c_2 => ?_)
  exact pxr x_Gr_prepare_14 ⟨rfl, H1, F1⟩
set_option maxHeartbeats 4000000 in
set_option maxRecDepth 20000 in
theorem c_prep_s {l : Launch} {G : pm_G} {fi : Bool} {h : pm_H} {S : gS}  (hl : l.stackTraces = false) (H : gH S h) (hW : gW S) (hV : gV S) (hr : gG S 1 = 0) (eo : (g_o1 S).1 = true) (hW1 : gW (g_o1 S).2) (hV1 : gV (g_o1 S).2) (hU1 : gU (g_o1 S).2) (hX1 : gX (g_o1 S).2) (es : g_shL (gG (g_o1 S).2 0) 0 (g_o1 S).2 = none) : pm_Cn l G fi false 1 6 M_Gr_prepare [.ref 0] h (fun r => r.1 = .inr "java/lang/UnsupportedOperationException" ∧ gFr h r.2 ∧ ∃ t, gH (gsTT (g_o1 S).2 t) r.2 ∧ gW (gsTT (g_o1 S).2 t) ∧ ∀ s, (∀ i, i < gG (g_o1 S).2 0 → s ≠ gN (g_o1 S).2 (gO (g_o1 S).2 i) 2) → t s = gT (g_o1 S).2 s) := by
  refine pm_Cn.of hl (by decide) (Nat.le_of_ble_eq_true rfl) ?_
  refine px (fun _ => pm_aload_n (pc := 0) d_Gr_prepare_0 rfl) ?_
  refine px (fun _ => pm_getf fl_Gr_39 (pc := 1) d_Gr_prepare_1 H.1 rfl) ?_
  refine pxn (fun _ => pm_if_ne (pc := 4) (tgt := 46) d_Gr_prepare_4 (by decide)) (fun c_1 => absurd (by rw [hr]; rfl) c_1) (fun c_1 => ?_)
  refine px (fun _ => pm_aload_n (pc := 7) d_Gr_prepare_7 rfl) ?_
  obtain ⟨⟨o1, h1⟩, ⟨e1, H1, F1⟩, en1⟩ := c_orderNodes (l := l) (G := G) (fi := fi) hl H hW hV
  dsimp only at e1 H1 F1
  rw [if_pos eo] at e1
  subst e1
  refine px (fun _ => k_Gr_prepare_8 (kc1 := 0) (ks1 := 0) (kc := 1) (ks := 6) (av := []) (st := []) H.1 (en1) rfl rfl (Nat.le_of_ble_eq_true rfl)) ?_
  refine pxn (fun _ => pm_if_ne (pc := 11) (tgt := 22) d_Gr_prepare_11 (by decide)) (fun c_2 => ?_) (fun c_2 => absurd c_2 (by decide))
  refine px (fun _ => pm_aload_n (pc := 22) d_Gr_prepare_22 rfl) ?_
  have K2 := c_findShapes (l := l) (G := G) (fi := fi) hl H1 hW1 hV1 hU1 hX1
  rw [es] at K2
  obtain ⟨⟨o2, h2⟩, ⟨e2, F2, t2, H2, w2, v2⟩, en2⟩ := K2
  dsimp only at e2 H2 F2
  subst e2
  refine px (fun _ => k_Gr_prepare_23 (kc1 := 0) (ks1 := 0) (kc := 1) (ks := 6) (av := []) (st := []) H1.1 (en2) rfl rfl (Nat.le_of_ble_eq_true rfl)) ?_
  refine pxn (fun _ => pm_if_ne (pc := 26) (tgt := 37) d_Gr_prepare_26 (by decide)) (fun c_3 => absurd (by decide) c_3) (fun c_3 => ?_)
  exact pxr x_Gr_prepare_29 ⟨rfl, F1.tr F2, t2, H2, w2, v2⟩
set_option maxHeartbeats 4000000 in
set_option maxRecDepth 20000 in
theorem c_prep_ok {l : Launch} {G : pm_G} {fi : Bool} {h : pm_H} {S : gS} {S2 : gS} {nc : Nat} {Inv : Nat → gS → Prop} (hl : l.stackTraces = false) (H : gH S h) (hW : gW S) (hV : gV S) (hr : gG S 1 = 0) (eo : (g_o1 S).1 = true) (hW1 : gW (g_o1 S).2) (hV1 : gV (g_o1 S).2) (hU1 : gU (g_o1 S).2) (hX1 : gX (g_o1 S).2) (es : g_shL (gG (g_o1 S).2 0) 0 (g_o1 S).2 = some S2) (hI0 : ∀ pl S, Inv pl S → gG S 0 = nc ∧ gW S) (hI : ∀ pl S, pl < nc → Inv pl S → gV S ∧ gU S ∧ gO S pl < nc ∧ (g_argC S (gO S pl) = true → g_pre S (gO S pl))) (hS : ∀ pl S S2, pl < nc → Inv pl S → g_fst S (gO S pl) S2 → Inv (pl + 1) S2) (iv : Inv 0 S2) : pm_Cn l G fi fi 0 0 M_Gr_prepare [.ref 0] h (fun r => ∃ S3, Inv nc S3 ∧ r.1 = .inl (some (.int (nI (g_cnt (fun n => gN S3 n 4) 0 nc)))) ∧ gH (gsG S3 1 1) r.2 ∧ gFr h r.2) := by
  refine pm_Cn.of hl (by decide) (Nat.le_of_ble_eq_true rfl) ?_
  refine px (fun _ => pm_aload_n (pc := 0) d_Gr_prepare_0 rfl) ?_
  refine px (fun _ => pm_getf fl_Gr_39 (pc := 1) d_Gr_prepare_1 H.1 rfl) ?_
  refine pxn (fun _ => pm_if_ne (pc := 4) (tgt := 46) d_Gr_prepare_4 (by decide)) (fun c_1 => absurd (by rw [hr]; rfl) c_1) (fun c_1 => ?_)
  refine px (fun _ => pm_aload_n (pc := 7) d_Gr_prepare_7 rfl) ?_
  obtain ⟨⟨o1, h1⟩, ⟨e1, H1, F1⟩, en1⟩ := c_orderNodes (l := l) (G := G) (fi := fi) hl H hW hV
  dsimp only at e1 H1 F1
  rw [if_pos eo] at e1
  subst e1
  refine px (fun _ => k_Gr_prepare_8 (kc1 := 0) (ks1 := 0) (kc := 0) (ks := 0) (av := []) (st := []) H.1 (en1) rfl rfl (Nat.le_of_ble_eq_true rfl)) ?_
  refine pxn (fun _ => pm_if_ne (pc := 11) (tgt := 22) d_Gr_prepare_11 (by decide)) (fun c_2 => ?_) (fun c_2 => absurd c_2 (by decide))
  refine px (fun _ => pm_aload_n (pc := 22) d_Gr_prepare_22 rfl) ?_
  have K2 := c_findShapes (l := l) (G := G) (fi := fi) hl H1 hW1 hV1 hU1 hX1
  rw [es] at K2
  obtain ⟨⟨o2, h2⟩, ⟨e2, H2, F2⟩, en2⟩ := K2
  dsimp only at e2 H2 F2
  subst e2
  refine px (fun _ => k_Gr_prepare_23 (kc1 := 0) (ks1 := 0) (kc := 0) (ks := 0) (av := []) (st := []) H1.1 (en2) rfl rfl (Nat.le_of_ble_eq_true rfl)) ?_
  refine pxn (fun _ => pm_if_ne (pc := 26) (tgt := 37) d_Gr_prepare_26 (by decide)) (fun c_3 => ?_) (fun c_3 => absurd c_3 (by decide))
  refine px (fun _ => pm_aload_n (pc := 37) d_Gr_prepare_37 rfl) ?_
  obtain ⟨⟨o3, h3⟩, ⟨e3, S3, iv3, H3, F3⟩, en3⟩ := c_fold (l := l) (G := G) (fi := fi) hl H2 hI0 hI hS iv
  dsimp only at e3 H3 F3
  subst e3
  obtain ⟨eg3, hW3⟩ := hI0 _ _ iv3
  refine px (fun _ => k_Gr_prepare_38 (kc1 := 0) (ks1 := 0) (kc := 0) (ks := 0) (av := []) (st := []) H2.1 (en3) rfl rfl (Nat.le_of_ble_eq_true rfl)) ?_
  refine px (fun _ => pm_aload_n (pc := 41) d_Gr_prepare_41 rfl) ?_
  refine px (fun _ => pm_iconst (v := 1) (pc := 42) d_Gr_prepare_42 rfl) ?_
  refine px (fun _ => pm_putfC (c' := pm_Ob 3 [.ref (1), .ref (2), .ref (3), .ref (4), .ref (5), .int (nI (gG S3 0)), .int (1), .int (nI (gG S3 2)), .int (nI (gG S3 3))]) fp_Gr_39 (pc := 43) d_Gr_prepare_43 H3.1 (Nat.le_of_ble_eq_true rfl) rfl rfl rfl) ?_
  have H_4 : gH (gsG S3 1 1) (h3.set (0) (pm_Ob 3 [.ref (1), .ref (2), .ref (3), .ref (4), .ref (5), .int (nI (gG S3 0)), .int (1), .int (nI (gG S3 2)), .int (nI (gG S3 3))])) := H3.G1 (v := 1)
  refine px (fun _ => pm_aload_n (pc := 46) d_Gr_prepare_46 rfl) ?_
  refine px (fun _ => k_Gr_prepare_47 (kc1 := 0) (ks1 := 0) (kc := 0) (ks := 0) (av := []) (st := []) H_4.1 (c_folded hl H_4 (hW3.G (by omega))) rfl rfl (Nat.le_of_ble_eq_true rfl)) ?_
  exact pxr (pm_iret (pc := 50) d_Gr_prepare_50 rfl rfl) ⟨S3, iv3, by rw [← eg3]; rfl, H_4, (F1).tr ((F2).tr ((F3).tr ((gFr.set _ _ (by omega)))))⟩
