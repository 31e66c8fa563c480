/-! ===== the class: set ===== -/
abbrev g_in (v : UInt64) : Prop := ¬ Op.cmpValue (FP.dcmp v 13875379345695965184) .l < 0 ∧ ¬ 0 < Op.cmpValue (FP.dcmp v 4652007308841189376) .g
abbrev g_wh (v : UInt64) : Prop := Op.cmpValue (FP.dcmp v (FP.i2d (FP.d2i v))) .l = 0
abbrev g_st (t : Nat) (v : UInt64) : Prop := g_in v ∧ (t = 0 ∨ g_wh v)
set_option maxHeartbeats 4000000 in
set_option maxRecDepth 20000 in
theorem c_isSettable {l : Launch} {G : pm_G} {fi : Bool} {h : pm_H} {t : Nat} {v : UInt64} (hl : l.stackTraces = false) (ht : t ≤ 1) : pm_En l G fi fi 0 0 M_Gr_isSettable [.int (nI t), .double v] h (.inl (some (.int (if g_st t v then 1 else 0))), h) := by
  refine pm_Cn.eq (pm_Cn.of hl (by decide) (Nat.le_of_ble_eq_true rfl) ?_)
  refine px (fun _ => pm_dload_n (pc := 0) d_Gr_isSettable_0 rfl) ?_
  refine px (fun _ => pm_ldc2d (pc := 1) d_Gr_isSettable_1 tw_292) ?_
  refine px (fun _ => pm_dcmp (pc := 4) d_Gr_isSettable_4) ?_
  refine pxb (fun _ => pm_if_lt (pc := 5) (tgt := 20) d_Gr_isSettable_5 (by decide)) (fun c_1 => ?_) (fun c_1 => ?_)
  · refine px (fun _ => pm_iconst (v := 0) (pc := 20) d_Gr_isSettable_20 rfl) ?_
    refine px (fun _ => pm_istore_n (lv' := [(3, .int (0)), (0, .int (nI t)), (1, .double (v))]) (pc := 21) d_Gr_isSettable_21 (by decide) rfl) ?_
    refine px (fun _ => pm_iload_n (pc := 22) d_Gr_isSettable_22 rfl) ?_
    refine pxb (fun _ => pm_if_eq (pc := 23) (tgt := 42) d_Gr_isSettable_23 (by decide)) (fun c_2 => ?_) (fun c_2 => absurd (by decide) c_2)
    refine px (fun _ => pm_iconst (v := 0) (pc := 42) d_Gr_isSettable_42 rfl) ?_
    exact pxr (pm_iret (pc := 43) d_Gr_isSettable_43 rfl rfl) (by rw [if_neg (by rintro ⟨⟨q1, q2⟩, q3 | q3⟩ <;> first | omega | exact absurd q3 (by assumption) | exact q1 (by assumption) | exact q2 (by assumption))])
  · refine px (fun _ => pm_dload_n (pc := 8) d_Gr_isSettable_8 rfl) ?_
    refine px (fun _ => pm_ldc2d (pc := 9) d_Gr_isSettable_9 tw_293) ?_
    refine px (fun _ => pm_dcmp (pc := 12) d_Gr_isSettable_12) ?_
    refine pxb (fun _ => pm_if_gt (pc := 13) (tgt := 20) d_Gr_isSettable_13 (by decide)) (fun c_3 => ?_) (fun c_3 => ?_)
    · refine px (fun _ => pm_iconst (v := 0) (pc := 20) d_Gr_isSettable_20 rfl) ?_
      refine px (fun _ => pm_istore_n (lv' := [(3, .int (0)), (0, .int (nI t)), (1, .double (v))]) (pc := 21) d_Gr_isSettable_21 (by decide) rfl) ?_
      refine px (fun _ => pm_iload_n (pc := 22) d_Gr_isSettable_22 rfl) ?_
      refine pxb (fun _ => pm_if_eq (pc := 23) (tgt := 42) d_Gr_isSettable_23 (by decide)) (fun c_4 => ?_) (fun c_4 => absurd (by decide) c_4)
      refine px (fun _ => pm_iconst (v := 0) (pc := 42) d_Gr_isSettable_42 rfl) ?_
      exact pxr (pm_iret (pc := 43) d_Gr_isSettable_43 rfl rfl) (by rw [if_neg (by rintro ⟨⟨q1, q2⟩, q3 | q3⟩ <;> first | omega | exact absurd q3 (by assumption) | exact q1 (by assumption) | exact q2 (by assumption))])
    · refine px (fun _ => pm_iconst (v := 1) (pc := 16) d_Gr_isSettable_16 rfl) ?_
      refine px (fun _ => pm_goto (tgt := 21) (pc := 17) d_Gr_isSettable_17 (by decide)) ?_
      refine px (fun _ => pm_istore_n (lv' := [(3, .int (1)), (0, .int (nI t)), (1, .double (v))]) (pc := 21) d_Gr_isSettable_21 (by decide) rfl) ?_
      refine px (fun _ => pm_iload_n (pc := 22) d_Gr_isSettable_22 rfl) ?_
      refine pxb (fun _ => pm_if_eq (pc := 23) (tgt := 42) d_Gr_isSettable_23 (by decide)) (fun c_5 => absurd c_5 (by decide)) (fun c_5 => ?_)
      refine px (fun _ => pm_iload_n (pc := 26) d_Gr_isSettable_26 rfl) ?_
      refine pxb (fun _ => pm_if_eq (pc := 27) (tgt := 38) d_Gr_isSettable_27 (by decide)) (fun c_6 => ?_) (fun c_6 => ?_)
      · have n_c_6 : t = 0 := (nI_eq (a := t) (b := 0) (by omega) (by omega)).mp c_6
        refine px (fun _ => pm_iconst (v := 1) (pc := 38) d_Gr_isSettable_38 rfl) ?_
        refine px (fun _ => pm_goto (tgt := 43) (pc := 39) d_Gr_isSettable_39 (by decide)) ?_
        exact pxr (pm_iret (pc := 43) d_Gr_isSettable_43 rfl rfl) (by rw [if_pos (by first | exact ⟨⟨by assumption, by assumption⟩, Or.inl (by assumption)⟩ | exact ⟨⟨by assumption, by assumption⟩, Or.inr (by assumption)⟩)])
      · have n_c_6 : ¬ (t = 0) := fun zq => c_6 ((nI_eq (a := t) (b := 0) (by omega) (by omega)).mpr zq)
        refine px (fun _ => pm_dload_n (pc := 30) d_Gr_isSettable_30 rfl) ?_
        refine px (fun _ => pm_dload_n (pc := 31) d_Gr_isSettable_31 rfl) ?_
        refine px (fun _ => pm_d2i (pc := 32) d_Gr_isSettable_32) ?_
        refine px (fun _ => pm_i2d (pc := 33) d_Gr_isSettable_33) ?_
        refine px (fun _ => pm_dcmp (pc := 34) d_Gr_isSettable_34) ?_
        refine pxn (fun _ => pm_if_ne (pc := 35) (tgt := 42) d_Gr_isSettable_35 (by decide)) (fun c_7 => ?_) (fun c_7 => ?_)
        · refine px (fun _ => pm_iconst (v := 0) (pc := 42) d_Gr_isSettable_42 rfl) ?_
          exact pxr (pm_iret (pc := 43) d_Gr_isSettable_43 rfl rfl) (by rw [if_neg (by rintro ⟨⟨q1, q2⟩, q3 | q3⟩ <;> first | omega | exact absurd q3 (by assumption) | exact q1 (by assumption) | exact q2 (by assumption))])
        · refine px (fun _ => pm_iconst (v := 1) (pc := 38) d_Gr_isSettable_38 rfl) ?_
          refine px (fun _ => pm_goto (tgt := 43) (pc := 39) d_Gr_isSettable_39 (by decide)) ?_
          exact pxr (pm_iret (pc := 43) d_Gr_isSettable_43 rfl rfl) (by rw [if_pos (by first | exact ⟨⟨by assumption, by assumption⟩, Or.inl (by assumption)⟩ | exact ⟨⟨by assumption, by assumption⟩, Or.inr (by assumption)⟩)])
set_option maxHeartbeats 4000000 in
set_option maxRecDepth 20000 in
theorem c_set_b1 {l : Launch} {G : pm_G} {fi : Bool} {h : pm_H} {S : gS} {s i9 j9 : Int32} {v : UInt64} (hl : l.stackTraces = false) (H : gH S h) (hW : gW S) (hs : s < 0 ∨ 20 ≤ s) : pm_En l G fi false 1 6 M_Gr_set [.ref (0), .int (s), .int (i9), .int (j9), .double (v)] h (.inr "java/lang/IllegalArgumentException", h) := by
  refine pm_Cn.eq (pm_Cn.of hl (by decide) (Nat.le_of_ble_eq_true rfl) ?_)
  refine px (fun _ => pm_iload_n (pc := 0) d_Gr_set_0 rfl) ?_
  refine px (fun _ => k_Gr_set_1 (kc1 := 0) (ks1 := 0) (kc := 1) (ks := 6) (av := [.int (s)]) (st := []) (c_isSlot_out hl hs) rfl rfl (Nat.le_of_ble_eq_true rfl)) ?_
  refine pxb (fun _ => pm_if_eq (pc := 4) (tgt := 52) d_Gr_set_4 (by decide)) (fun c_1 => ?_) (fun c_1 => absurd (by decide) c_1)
  exact pxr x_Gr_set_52 rfl
set_option maxHeartbeats 4000000 in
set_option maxRecDepth 20000 in
theorem c_set_bad {l : Launch} {G : pm_G} {fi : Bool} {h : pm_H} {S : gS} {j : Nat} {i9 j9 : Int32} {v : UInt64} (hl : l.stackTraces = false) (H : gH S h) (hW : gW S) (hj : j < 20) (hb : ¬ ((gK S j 0 = 1 ∨ gK S j 0 = 2) ∧ (¬ i9 < 0 ∧ ¬ nI (gT S j 1) ≤ i9 ∧ ¬ j9 < 0 ∧ ¬ nI (gT S j 2) ≤ j9) ∧ g_st (gT S j 0) v)) : pm_En l G fi false 1 6 M_Gr_set [.ref (0), .int (nI j), .int (i9), .int (j9), .double (v)] h (.inr "java/lang/IllegalArgumentException", h) := by
  refine pm_Cn.eq (pm_Cn.of hl (by decide) (Nat.le_of_ble_eq_true rfl) ?_)
  obtain ⟨b1, b2, b3, b4, b5, b6⟩ := id hW
  have bj := b5 j hj
  refine px (fun _ => pm_iload_n (pc := 0) d_Gr_set_0 rfl) ?_
  refine px (fun _ => k_Gr_set_1 (kc1 := 0) (ks1 := 0) (kc := 1) (ks := 6) (av := [.int (nI j)]) (st := []) (c_isSlot_in hl hj) rfl rfl (Nat.le_of_ble_eq_true rfl)) ?_
  refine pxb (fun _ => pm_if_eq (pc := 4) (tgt := 52) d_Gr_set_4 (by decide)) (fun c_1 => absurd c_1 (by decide)) (fun c_1 => ?_)
  refine px (fun _ => pm_aload_n (pc := 7) d_Gr_set_7 rfl) ?_
  refine px (fun _ => pm_iload_n (pc := 8) d_Gr_set_8 rfl) ?_
  refine px (fun _ => k_Gr_set_9 (kc1 := 0) (ks1 := 0) (kc := 1) (ks := 6) (av := [.int (nI j)]) (st := []) H.1 (c_isFed hl H hW hj) rfl rfl (Nat.le_of_ble_eq_true rfl)) ?_
  refine pxb (fun _ => pm_if_eq (pc := 12) (tgt := 52) d_Gr_set_12 (by decide)) (fun c_2 => ?_) (fun c_2 => ?_)
  · have n_c_2 : ¬ (gK S j 0 = 1 ∨ gK S j 0 = 2) := g_if0.mp c_2
    exact pxr x_Gr_set_52 rfl
  · have n_c_2 : gK S j 0 = 1 ∨ gK S j 0 = 2 := Decidable.byContradiction fun q => c_2 (g_if0.mpr q)
    refine px (fun _ => pm_aload_n (pc := 15) d_Gr_set_15 rfl) ?_
    refine px (fun _ => pm_getf fl_Gr_11 (pc := 16) d_Gr_set_16 H.1 rfl) ?_
    refine px (fun _ => pm_iload_n (pc := 19) d_Gr_set_19 rfl) ?_
    obtain ⟨f_3, hf_4, gf_5⟩ := id H.2.1
    refine px (fun _ => pm_aald (kd := 3) (Cn := "GraphRunner$Slot") (j := j) (pc := 20) d_Gr_set_20 (fun _ => rfl) hf_4 (rfl) (hj) (by decide) (gf_5 j hj)) ?_
    refine px (fun _ => pm_getf fl_Gr_67 (pc := 21) d_Gr_set_21 (H.2.2.2.2.2.2.1 j hj).1 rfl) ?_
    refine px (fun _ => pm_iload_n (pc := 24) d_Gr_set_24 rfl) ?_
    refine px (fun _ => pm_iload_n (pc := 25) d_Gr_set_25 rfl) ?_
    refine px (fun _ => k_Gr_set_26 (kc1 := 0) (ks1 := 0) (kc := 1) (ks := 6) (av := [.int (i9), .int (j9)]) (st := []) (H.2.2.2.2.2.2.1 j hj).2.1 (c_Tb_has hl (H.2.2.2.2.2.2.1 j hj).2.1) rfl rfl (Nat.le_of_ble_eq_true rfl)) ?_
    refine pxb (fun _ => pm_if_eq (pc := 29) (tgt := 52) d_Gr_set_29 (by decide)) (fun c_6 => ?_) (fun c_6 => ?_)
    · have n_c_6 : ¬ (¬ i9 < 0 ∧ ¬ nI (gT S j 1) ≤ i9 ∧ ¬ j9 < 0 ∧ ¬ nI (gT S j 2) ≤ j9) := g_if0.mp c_6
      exact pxr x_Gr_set_52 rfl
    · have n_c_6 : ¬ i9 < 0 ∧ ¬ nI (gT S j 1) ≤ i9 ∧ ¬ j9 < 0 ∧ ¬ nI (gT S j 2) ≤ j9 := Decidable.byContradiction fun q => c_6 (g_if0.mpr q)
      refine px (fun _ => pm_aload_n (pc := 32) d_Gr_set_32 rfl) ?_
      refine px (fun _ => pm_getf fl_Gr_11 (pc := 33) d_Gr_set_33 H.1 rfl) ?_
      refine px (fun _ => pm_iload_n (pc := 36) d_Gr_set_36 rfl) ?_
      obtain ⟨f_7, hf_8, gf_9⟩ := id H.2.1
      refine px (fun _ => pm_aald (kd := 3) (Cn := "GraphRunner$Slot") (j := j) (pc := 37) d_Gr_set_37 (fun _ => rfl) hf_8 (rfl) (hj) (by decide) (gf_9 j hj)) ?_
      refine px (fun _ => pm_getf fl_Gr_67 (pc := 38) d_Gr_set_38 (H.2.2.2.2.2.2.1 j hj).1 rfl) ?_
      refine px (fun _ => pm_getf fl_Gr_90 (pc := 41) d_Gr_set_41 (H.2.2.2.2.2.2.1 j hj).2.1 rfl) ?_
      refine px (fun _ => pm_dload (pc := 44) d_Gr_set_44 rfl) ?_
      refine px (fun _ => k_Gr_set_46 (kc1 := 0) (ks1 := 0) (kc := 1) (ks := 6) (av := [.int (nI (gT S j 0)), .double (v)]) (st := []) (c_isSettable hl (by omega)) rfl rfl (Nat.le_of_ble_eq_true rfl)) ?_
      refine pxn (fun _ => pm_if_ne (pc := 49) (tgt := 60) d_Gr_set_49 (by decide)) (fun c_10 => ?_) (fun c_10 => ?_)
      · have n_c_10 : g_st (gT S j 0) v := Decidable.byContradiction fun q => c_10 (g_if0.mpr q)
        exact absurd ⟨by assumption, by assumption, by assumption⟩ hb
      · have n_c_10 : ¬ (g_st (gT S j 0) v) := g_if0.mp c_10
        exact pxr x_Gr_set_52 rfl
set_option maxHeartbeats 4000000 in
set_option maxRecDepth 20000 in
theorem c_set_ok01 {l : Launch} {G : pm_G} {fi : Bool} {h : pm_H} {S : gS} {j x y : Nat} {v : UInt64} (hl : l.stackTraces = false) (H : gH S h) (hW : gW S) (hj : j < 20) (htt : gT S j 0 = 0) (hkk : gK S j 0 = 1) (hx : x < gT S j 1) (hy : y < gT S j 2) (hv : g_st (gT S j 0) v) : pm_Cn l G fi fi 0 0 M_Gr_set [.ref (0), .int (nI j), .int (nI x), .int (nI y), .double (v)] h (fun x9 => x9.1 = .inl none ∧ gH (g_clrN (gsC S j (va_up (gC S j) (x * 4 + y) (v))) 5 0 (gG S 0)) x9.2 ∧ gFr h x9.2) := by
  refine pm_Cn.of hl (by decide) (Nat.le_of_ble_eq_true rfl) ?_
  obtain ⟨b1, b2, b3, b4, b5, b6⟩ := id hW
  have bj := b5 j hj
  refine px (fun _ => pm_iload_n (pc := 0) d_Gr_set_0 rfl) ?_
  refine px (fun _ => k_Gr_set_1 (kc1 := 0) (ks1 := 0) (kc := 0) (ks := 0) (av := [.int (nI j)]) (st := []) (c_isSlot_in hl hj) rfl rfl (Nat.le_of_ble_eq_true rfl)) ?_
  refine pxb (fun _ => pm_if_eq (pc := 4) (tgt := 52) d_Gr_set_4 (by decide)) (fun c_1 => absurd c_1 (by decide)) (fun c_1 => ?_)
  refine px (fun _ => pm_aload_n (pc := 7) d_Gr_set_7 rfl) ?_
  refine px (fun _ => pm_iload_n (pc := 8) d_Gr_set_8 rfl) ?_
  refine px (fun _ => k_Gr_set_9 (kc1 := 0) (ks1 := 0) (kc := 0) (ks := 0) (av := [.int (nI j)]) (st := []) H.1 ((by have k9 := c_isFed (l := l) (G := G) (fi := fi) hl H hW hj; rw [if_pos (by omega)] at k9; exact k9)) rfl rfl (Nat.le_of_ble_eq_true rfl)) ?_
  refine pxb (fun _ => pm_if_eq (pc := 12) (tgt := 52) d_Gr_set_12 (by decide)) (fun c_2 => absurd c_2 (by decide)) (fun c_2 => ?_)
  refine px (fun _ => pm_aload_n (pc := 15) d_Gr_set_15 rfl) ?_
  refine px (fun _ => pm_getf fl_Gr_11 (pc := 16) d_Gr_set_16 H.1 rfl) ?_
  refine px (fun _ => pm_iload_n (pc := 19) d_Gr_set_19 rfl) ?_
  obtain ⟨f_3, hf_4, gf_5⟩ := id H.2.1
  refine px (fun _ => pm_aald (kd := 3) (Cn := "GraphRunner$Slot") (j := j) (pc := 20) d_Gr_set_20 (fun _ => rfl) hf_4 (rfl) (hj) (by decide) (gf_5 j hj)) ?_
  refine px (fun _ => pm_getf fl_Gr_67 (pc := 21) d_Gr_set_21 (H.2.2.2.2.2.2.1 j hj).1 rfl) ?_
  refine px (fun _ => pm_iload_n (pc := 24) d_Gr_set_24 rfl) ?_
  refine px (fun _ => pm_iload_n (pc := 25) d_Gr_set_25 rfl) ?_
  refine px (fun _ => k_Gr_set_26 (kc1 := 0) (ks1 := 0) (kc := 0) (ks := 0) (av := [.int (nI x), .int (nI y)]) (st := []) (H.2.2.2.2.2.2.1 j hj).2.1 ((by have k9 := c_Tb_has (l := l) (G := G) (fi := fi) (i := nI x) (j := nI y) hl (H.2.2.2.2.2.2.1 j hj).2.1; rw [if_pos ⟨nI_pos (by omega), fun q => absurd ((nI_leI (a := gT S j 1) (b := x) (by omega) (by omega)).mp q) (by omega), nI_pos (by omega), fun q => absurd ((nI_leI (a := gT S j 2) (b := y) (by omega) (by omega)).mp q) (by omega)⟩] at k9; exact k9)) rfl rfl (Nat.le_of_ble_eq_true rfl)) ?_
  refine pxb (fun _ => pm_if_eq (pc := 29) (tgt := 52) d_Gr_set_29 (by decide)) (fun c_6 => absurd c_6 (by decide)) (fun c_6 => ?_)
  refine px (fun _ => pm_aload_n (pc := 32) d_Gr_set_32 rfl) ?_
  refine px (fun _ => pm_getf fl_Gr_11 (pc := 33) d_Gr_set_33 H.1 rfl) ?_
  refine px (fun _ => pm_iload_n (pc := 36) d_Gr_set_36 rfl) ?_
  obtain ⟨f_7, hf_8, gf_9⟩ := id H.2.1
  refine px (fun _ => pm_aald (kd := 3) (Cn := "GraphRunner$Slot") (j := j) (pc := 37) d_Gr_set_37 (fun _ => rfl) hf_8 (rfl) (hj) (by decide) (gf_9 j hj)) ?_
  refine px (fun _ => pm_getf fl_Gr_67 (pc := 38) d_Gr_set_38 (H.2.2.2.2.2.2.1 j hj).1 rfl) ?_
  refine px (fun _ => pm_getf fl_Gr_90 (pc := 41) d_Gr_set_41 (H.2.2.2.2.2.2.1 j hj).2.1 rfl) ?_
  refine px (fun _ => pm_dload (pc := 44) d_Gr_set_44 rfl) ?_
  refine px (fun _ => k_Gr_set_46 (kc1 := 0) (ks1 := 0) (kc := 0) (ks := 0) (av := [.int (nI (gT S j 0)), .double (v)]) (st := []) ((by have k9 := c_isSettable (l := l) (G := G) (fi := fi) (h := h) (t := gT S j 0) (v := v) hl (by omega); rw [if_pos hv] at k9; exact k9)) rfl rfl (Nat.le_of_ble_eq_true rfl)) ?_
  refine pxn (fun _ => pm_if_ne (pc := 49) (tgt := 60) d_Gr_set_49 (by decide)) (fun c_10 => ?_) (fun c_10 => absurd c_10 (by decide))
  refine px (fun _ => pm_aload_n (pc := 60) d_Gr_set_60 rfl) ?_
  refine px (fun _ => pm_getf fl_Gr_11 (pc := 61) d_Gr_set_61 H.1 rfl) ?_
  refine px (fun _ => pm_iload_n (pc := 64) d_Gr_set_64 rfl) ?_
  obtain ⟨f_11, hf_12, gf_13⟩ := id H.2.1
  refine px (fun _ => pm_aald (kd := 3) (Cn := "GraphRunner$Slot") (j := j) (pc := 65) d_Gr_set_65 (fun _ => rfl) hf_12 (rfl) (hj) (by decide) (gf_13 j hj)) ?_
  refine px (fun _ => pm_getf fl_Gr_67 (pc := 66) d_Gr_set_66 (H.2.2.2.2.2.2.1 j hj).1 rfl) ?_
  refine px (fun _ => pm_iload_n (pc := 69) d_Gr_set_69 rfl) ?_
  refine px (fun _ => pm_iload_n (pc := 70) d_Gr_set_70 rfl) ?_
  refine px (fun _ => pm_aload_n (pc := 71) d_Gr_set_71 rfl) ?_
  refine px (fun _ => pm_getf fl_Gr_11 (pc := 72) d_Gr_set_72 H.1 rfl) ?_
  refine px (fun _ => pm_iload_n (pc := 75) d_Gr_set_75 rfl) ?_
  obtain ⟨f_14, hf_15, gf_16⟩ := id H.2.1
  refine px (fun _ => pm_aald (kd := 3) (Cn := "GraphRunner$Slot") (j := j) (pc := 76) d_Gr_set_76 (fun _ => rfl) hf_15 (rfl) (hj) (by decide) (gf_16 j hj)) ?_
  refine px (fun _ => pm_getf fl_Gr_67 (pc := 77) d_Gr_set_77 (H.2.2.2.2.2.2.1 j hj).1 rfl) ?_
  refine px (fun _ => pm_getf fl_Gr_90 (pc := 80) d_Gr_set_80 (H.2.2.2.2.2.2.1 j hj).2.1 rfl) ?_
  refine px (fun _ => pm_iconst (v := 1) (pc := 83) d_Gr_set_83 rfl) ?_
  refine pxn (fun _ => pm_icmp_ne (pc := 84) (tgt := 94) d_Gr_set_84 (by decide)) (fun c_17 => ?_) (fun c_17 => absurd c_17 (by rw [htt]; decide))
  refine px (fun _ => pm_dload (pc := 94) d_Gr_set_94 rfl) ?_
  obtain ⟨⟨o18, h18⟩, ⟨e18, H18, F18⟩, en18⟩ := c_put (l := l) (G := G) (fi := fi) (i := x) (k := y) (v := v) hl H hW hj (by omega) (by omega)
  dsimp only at e18 H18 F18
  subst e18
  refine px (fun _ => k_Gr_set_96 (kc1 := 0) (ks1 := 0) (kc := 0) (ks := 0) (av := [.int (nI x), .int (nI y), .double (v)]) (st := []) (H.2.2.2.2.2.2.1 j hj).2.1 (en18) rfl rfl (Nat.le_of_ble_eq_true rfl)) ?_
  refine px (fun _ => pm_aload_n (pc := 99) d_Gr_set_99 rfl) ?_
  refine px (fun _ => pm_getf fl_Gr_11 (pc := 100) d_Gr_set_100 H18.1 rfl) ?_
  refine px (fun _ => pm_iload_n (pc := 103) d_Gr_set_103 rfl) ?_
  obtain ⟨f_19, hf_20, gf_21⟩ := id H18.2.1
  refine px (fun _ => pm_aald (kd := 3) (Cn := "GraphRunner$Slot") (j := j) (pc := 104) d_Gr_set_104 (fun _ => rfl) hf_20 (rfl) (hj) (by decide) (gf_21 j hj)) ?_
  refine px (fun _ => pm_getf fl_Gr_64 (pc := 105) d_Gr_set_105 (H18.2.2.2.2.2.2.1 j hj).1 rfl) ?_
  refine px (fun _ => pm_iconst (v := 2) (pc := 108) d_Gr_set_108 rfl) ?_
  refine pxn (fun _ => pm_icmp_ne (pc := 109) (tgt := 119) d_Gr_set_109 (by decide)) (fun c_22 => ?_) (fun c_22 => absurd c_22 (by rw [show gK (gsC S j (va_up (gC S j) (x * 4 + y) (v))) j 0 = 1 from hkk]; decide))
  refine px (fun _ => pm_aload_n (pc := 119) d_Gr_set_119 rfl) ?_
  obtain ⟨⟨o23, h23⟩, ⟨e23, H23, F23⟩, en23⟩ := c_forget (l := l) (G := G) (fi := fi) hl H18 hW.C
  dsimp only at e23 H23 F23
  subst e23
  refine px (fun _ => k_Gr_set_120 (kc1 := 0) (ks1 := 0) (kc := 0) (ks := 0) (av := []) (st := []) H18.1 (en23) rfl rfl (Nat.le_of_ble_eq_true rfl)) ?_
  exact pxr (pm_vret (pc := 123) d_Gr_set_123 rfl) ⟨rfl, H23, (F18).tr (F23)⟩
set_option maxHeartbeats 4000000 in
set_option maxRecDepth 20000 in
theorem c_set_ok02 {l : Launch} {G : pm_G} {fi : Bool} {h : pm_H} {S : gS} {j x y : Nat} {v : UInt64} (hl : l.stackTraces = false) (H : gH S h) (hW : gW S) (hj : j < 20) (htt : gT S j 0 = 0) (hkk : gK S j 0 = 2) (hx : x < gT S j 1) (hy : y < gT S j 2) (hv : g_st (gT S j 0) v) : pm_Cn l G fi fi 0 0 M_Gr_set [.ref (0), .int (nI j), .int (nI x), .int (nI y), .double (v)] h (fun x9 => x9.1 = .inl none ∧ gH (g_unp (gsC S j (va_up (gC S j) (x * 4 + y) (v)))) x9.2 ∧ gFr h x9.2) := by
  refine pm_Cn.of hl (by decide) (Nat.le_of_ble_eq_true rfl) ?_
  obtain ⟨b1, b2, b3, b4, b5, b6⟩ := id hW
  have bj := b5 j hj
  refine px (fun _ => pm_iload_n (pc := 0) d_Gr_set_0 rfl) ?_
  refine px (fun _ => k_Gr_set_1 (kc1 := 0) (ks1 := 0) (kc := 0) (ks := 0) (av := [.int (nI j)]) (st := []) (c_isSlot_in hl hj) rfl rfl (Nat.le_of_ble_eq_true rfl)) ?_
  refine pxb (fun _ => pm_if_eq (pc := 4) (tgt := 52) d_Gr_set_4 (by decide)) (fun c_1 => absurd c_1 (by decide)) (fun c_1 => ?_)
  refine px (fun _ => pm_aload_n (pc := 7) d_Gr_set_7 rfl) ?_
  refine px (fun _ => pm_iload_n (pc := 8) d_Gr_set_8 rfl) ?_
  refine px (fun _ => k_Gr_set_9 (kc1 := 0) (ks1 := 0) (kc := 0) (ks := 0) (av := [.int (nI j)]) (st := []) H.1 ((by have k9 := c_isFed (l := l) (G := G) (fi := fi) hl H hW hj; rw [if_pos (by omega)] at k9; exact k9)) rfl rfl (Nat.le_of_ble_eq_true rfl)) ?_
  refine pxb (fun _ => pm_if_eq (pc := 12) (tgt := 52) d_Gr_set_12 (by decide)) (fun c_2 => absurd c_2 (by decide)) (fun c_2 => ?_)
  refine px (fun _ => pm_aload_n (pc := 15) d_Gr_set_15 rfl) ?_
  refine px (fun _ => pm_getf fl_Gr_11 (pc := 16) d_Gr_set_16 H.1 rfl) ?_
  refine px (fun _ => pm_iload_n (pc := 19) d_Gr_set_19 rfl) ?_
  obtain ⟨f_3, hf_4, gf_5⟩ := id H.2.1
  refine px (fun _ => pm_aald (kd := 3) (Cn := "GraphRunner$Slot") (j := j) (pc := 20) d_Gr_set_20 (fun _ => rfl) hf_4 (rfl) (hj) (by decide) (gf_5 j hj)) ?_
  refine px (fun _ => pm_getf fl_Gr_67 (pc := 21) d_Gr_set_21 (H.2.2.2.2.2.2.1 j hj).1 rfl) ?_
  refine px (fun _ => pm_iload_n (pc := 24) d_Gr_set_24 rfl) ?_
  refine px (fun _ => pm_iload_n (pc := 25) d_Gr_set_25 rfl) ?_
  refine px (fun _ => k_Gr_set_26 (kc1 := 0) (ks1 := 0) (kc := 0) (ks := 0) (av := [.int (nI x), .int (nI y)]) (st := []) (H.2.2.2.2.2.2.1 j hj).2.1 ((by have k9 := c_Tb_has (l := l) (G := G) (fi := fi) (i := nI x) (j := nI y) hl (H.2.2.2.2.2.2.1 j hj).2.1; rw [if_pos ⟨nI_pos (by omega), fun q => absurd ((nI_leI (a := gT S j 1) (b := x) (by omega) (by omega)).mp q) (by omega), nI_pos (by omega), fun q => absurd ((nI_leI (a := gT S j 2) (b := y) (by omega) (by omega)).mp q) (by omega)⟩] at k9; exact k9)) rfl rfl (Nat.le_of_ble_eq_true rfl)) ?_
  refine pxb (fun _ => pm_if_eq (pc := 29) (tgt := 52) d_Gr_set_29 (by decide)) (fun c_6 => absurd c_6 (by decide)) (fun c_6 => ?_)
  refine px (fun _ => pm_aload_n (pc := 32) d_Gr_set_32 rfl) ?_
  refine px (fun _ => pm_getf fl_Gr_11 (pc := 33) d_Gr_set_33 H.1 rfl) ?_
  refine px (fun _ => pm_iload_n (pc := 36) d_Gr_set_36 rfl) ?_
  obtain ⟨f_7, hf_8, gf_9⟩ := id H.2.1
  refine px (fun _ => pm_aald (kd := 3) (Cn := "GraphRunner$Slot") (j := j) (pc := 37) d_Gr_set_37 (fun _ => rfl) hf_8 (rfl) (hj) (by decide) (gf_9 j hj)) ?_
  refine px (fun _ => pm_getf fl_Gr_67 (pc := 38) d_Gr_set_38 (H.2.2.2.2.2.2.1 j hj).1 rfl) ?_
  refine px (fun _ => pm_getf fl_Gr_90 (pc := 41) d_Gr_set_41 (H.2.2.2.2.2.2.1 j hj).2.1 rfl) ?_
  refine px (fun _ => pm_dload (pc := 44) d_Gr_set_44 rfl) ?_
  refine px (fun _ => k_Gr_set_46 (kc1 := 0) (ks1 := 0) (kc := 0) (ks := 0) (av := [.int (nI (gT S j 0)), .double (v)]) (st := []) ((by have k9 := c_isSettable (l := l) (G := G) (fi := fi) (h := h) (t := gT S j 0) (v := v) hl (by omega); rw [if_pos hv] at k9; exact k9)) rfl rfl (Nat.le_of_ble_eq_true rfl)) ?_
  refine pxn (fun _ => pm_if_ne (pc := 49) (tgt := 60) d_Gr_set_49 (by decide)) (fun c_10 => ?_) (fun c_10 => absurd c_10 (by decide))
  refine px (fun _ => pm_aload_n (pc := 60) d_Gr_set_60 rfl) ?_
  refine px (fun _ => pm_getf fl_Gr_11 (pc := 61) d_Gr_set_61 H.1 rfl) ?_
  refine px (fun _ => pm_iload_n (pc := 64) d_Gr_set_64 rfl) ?_
  obtain ⟨f_11, hf_12, gf_13⟩ := id H.2.1
  refine px (fun _ => pm_aald (kd := 3) (Cn := "GraphRunner$Slot") (j := j) (pc := 65) d_Gr_set_65 (fun _ => rfl) hf_12 (rfl) (hj) (by decide) (gf_13 j hj)) ?_
  refine px (fun _ => pm_getf fl_Gr_67 (pc := 66) d_Gr_set_66 (H.2.2.2.2.2.2.1 j hj).1 rfl) ?_
  refine px (fun _ => pm_iload_n (pc := 69) d_Gr_set_69 rfl) ?_
  refine px (fun _ => pm_iload_n (pc := 70) d_Gr_set_70 rfl) ?_
  refine px (fun _ => pm_aload_n (pc := 71) d_Gr_set_71 rfl) ?_
  refine px (fun _ => pm_getf fl_Gr_11 (pc := 72) d_Gr_set_72 H.1 rfl) ?_
  refine px (fun _ => pm_iload_n (pc := 75) d_Gr_set_75 rfl) ?_
  obtain ⟨f_14, hf_15, gf_16⟩ := id H.2.1
  refine px (fun _ => pm_aald (kd := 3) (Cn := "GraphRunner$Slot") (j := j) (pc := 76) d_Gr_set_76 (fun _ => rfl) hf_15 (rfl) (hj) (by decide) (gf_16 j hj)) ?_
  refine px (fun _ => pm_getf fl_Gr_67 (pc := 77) d_Gr_set_77 (H.2.2.2.2.2.2.1 j hj).1 rfl) ?_
  refine px (fun _ => pm_getf fl_Gr_90 (pc := 80) d_Gr_set_80 (H.2.2.2.2.2.2.1 j hj).2.1 rfl) ?_
  refine px (fun _ => pm_iconst (v := 1) (pc := 83) d_Gr_set_83 rfl) ?_
  refine pxn (fun _ => pm_icmp_ne (pc := 84) (tgt := 94) d_Gr_set_84 (by decide)) (fun c_17 => ?_) (fun c_17 => absurd c_17 (by rw [htt]; decide))
  refine px (fun _ => pm_dload (pc := 94) d_Gr_set_94 rfl) ?_
  obtain ⟨⟨o18, h18⟩, ⟨e18, H18, F18⟩, en18⟩ := c_put (l := l) (G := G) (fi := fi) (i := x) (k := y) (v := v) hl H hW hj (by omega) (by omega)
  dsimp only at e18 H18 F18
  subst e18
  refine px (fun _ => k_Gr_set_96 (kc1 := 0) (ks1 := 0) (kc := 0) (ks := 0) (av := [.int (nI x), .int (nI y), .double (v)]) (st := []) (H.2.2.2.2.2.2.1 j hj).2.1 (en18) rfl rfl (Nat.le_of_ble_eq_true rfl)) ?_
  refine px (fun _ => pm_aload_n (pc := 99) d_Gr_set_99 rfl) ?_
  refine px (fun _ => pm_getf fl_Gr_11 (pc := 100) d_Gr_set_100 H18.1 rfl) ?_
  refine px (fun _ => pm_iload_n (pc := 103) d_Gr_set_103 rfl) ?_
  obtain ⟨f_19, hf_20, gf_21⟩ := id H18.2.1
  refine px (fun _ => pm_aald (kd := 3) (Cn := "GraphRunner$Slot") (j := j) (pc := 104) d_Gr_set_104 (fun _ => rfl) hf_20 (rfl) (hj) (by decide) (gf_21 j hj)) ?_
  refine px (fun _ => pm_getf fl_Gr_64 (pc := 105) d_Gr_set_105 (H18.2.2.2.2.2.2.1 j hj).1 rfl) ?_
  refine px (fun _ => pm_iconst (v := 2) (pc := 108) d_Gr_set_108 rfl) ?_
  refine pxn (fun _ => pm_icmp_ne (pc := 109) (tgt := 119) d_Gr_set_109 (by decide)) (fun c_22 => absurd (by rw [show gK (gsC S j (va_up (gC S j) (x * 4 + y) (v))) j 0 = 2 from hkk]; rfl) c_22) (fun c_22 => ?_)
  refine px (fun _ => pm_aload_n (pc := 112) d_Gr_set_112 rfl) ?_
  obtain ⟨⟨o23, h23⟩, ⟨e23, H23, F23⟩, en23⟩ := c_unprep (l := l) (G := G) (fi := fi) hl H18 hW.C
  dsimp only at e23 H23 F23
  subst e23
  refine px (fun _ => k_Gr_set_113 (kc1 := 0) (ks1 := 0) (kc := 0) (ks := 0) (av := []) (st := []) H18.1 (en23) rfl rfl (Nat.le_of_ble_eq_true rfl)) ?_
  refine px (fun _ => pm_goto (tgt := 123) (pc := 116) d_Gr_set_116 (by decide)) ?_
  exact pxr (pm_vret (pc := 123) d_Gr_set_123 rfl) ⟨rfl, H23, (F18).tr (F23)⟩
set_option maxHeartbeats 4000000 in
set_option maxRecDepth 20000 in
theorem c_set_ok11 {l : Launch} {G : pm_G} {fi : Bool} {h : pm_H} {S : gS} {j x y : Nat} {v : UInt64} (hl : l.stackTraces = false) (H : gH S h) (hW : gW S) (hj : j < 20) (htt : gT S j 0 = 1) (hkk : gK S j 0 = 1) (hx : x < gT S j 1) (hy : y < gT S j 2) (hv : g_st (gT S j 0) v) : pm_Cn l G fi fi 0 0 M_Gr_set [.ref (0), .int (nI j), .int (nI x), .int (nI y), .double (v)] h (fun x9 => x9.1 = .inl none ∧ gH (g_clrN (gsC S j (va_up (gC S j) (x * 4 + y) (FP.i2d (FP.d2i v)))) 5 0 (gG S 0)) x9.2 ∧ gFr h x9.2) := by
  refine pm_Cn.of hl (by decide) (Nat.le_of_ble_eq_true rfl) ?_
  obtain ⟨b1, b2, b3, b4, b5, b6⟩ := id hW
  have bj := b5 j hj
  refine px (fun _ => pm_iload_n (pc := 0) d_Gr_set_0 rfl) ?_
  refine px (fun _ => k_Gr_set_1 (kc1 := 0) (ks1 := 0) (kc := 0) (ks := 0) (av := [.int (nI j)]) (st := []) (c_isSlot_in hl hj) rfl rfl (Nat.le_of_ble_eq_true rfl)) ?_
  refine pxb (fun _ => pm_if_eq (pc := 4) (tgt := 52) d_Gr_set_4 (by decide)) (fun c_1 => absurd c_1 (by decide)) (fun c_1 => ?_)
  refine px (fun _ => pm_aload_n (pc := 7) d_Gr_set_7 rfl) ?_
  refine px (fun _ => pm_iload_n (pc := 8) d_Gr_set_8 rfl) ?_
  refine px (fun _ => k_Gr_set_9 (kc1 := 0) (ks1 := 0) (kc := 0) (ks := 0) (av := [.int (nI j)]) (st := []) H.1 ((by have k9 := c_isFed (l := l) (G := G) (fi := fi) hl H hW hj; rw [if_pos (by omega)] at k9; exact k9)) rfl rfl (Nat.le_of_ble_eq_true rfl)) ?_
  refine pxb (fun _ => pm_if_eq (pc := 12) (tgt := 52) d_Gr_set_12 (by decide)) (fun c_2 => absurd c_2 (by decide)) (fun c_2 => ?_)
  refine px (fun _ => pm_aload_n (pc := 15) d_Gr_set_15 rfl) ?_
  refine px (fun _ => pm_getf fl_Gr_11 (pc := 16) d_Gr_set_16 H.1 rfl) ?_
  refine px (fun _ => pm_iload_n (pc := 19) d_Gr_set_19 rfl) ?_
  obtain ⟨f_3, hf_4, gf_5⟩ := id H.2.1
  refine px (fun _ => pm_aald (kd := 3) (Cn := "GraphRunner$Slot") (j := j) (pc := 20) d_Gr_set_20 (fun _ => rfl) hf_4 (rfl) (hj) (by decide) (gf_5 j hj)) ?_
  refine px (fun _ => pm_getf fl_Gr_67 (pc := 21) d_Gr_set_21 (H.2.2.2.2.2.2.1 j hj).1 rfl) ?_
  refine px (fun _ => pm_iload_n (pc := 24) d_Gr_set_24 rfl) ?_
  refine px (fun _ => pm_iload_n (pc := 25) d_Gr_set_25 rfl) ?_
  refine px (fun _ => k_Gr_set_26 (kc1 := 0) (ks1 := 0) (kc := 0) (ks := 0) (av := [.int (nI x), .int (nI y)]) (st := []) (H.2.2.2.2.2.2.1 j hj).2.1 ((by have k9 := c_Tb_has (l := l) (G := G) (fi := fi) (i := nI x) (j := nI y) hl (H.2.2.2.2.2.2.1 j hj).2.1; rw [if_pos ⟨nI_pos (by omega), fun q => absurd ((nI_leI (a := gT S j 1) (b := x) (by omega) (by omega)).mp q) (by omega), nI_pos (by omega), fun q => absurd ((nI_leI (a := gT S j 2) (b := y) (by omega) (by omega)).mp q) (by omega)⟩] at k9; exact k9)) rfl rfl (Nat.le_of_ble_eq_true rfl)) ?_
  refine pxb (fun _ => pm_if_eq (pc := 29) (tgt := 52) d_Gr_set_29 (by decide)) (fun c_6 => absurd c_6 (by decide)) (fun c_6 => ?_)
  refine px (fun _ => pm_aload_n (pc := 32) d_Gr_set_32 rfl) ?_
  refine px (fun _ => pm_getf fl_Gr_11 (pc := 33) d_Gr_set_33 H.1 rfl) ?_
  refine px (fun _ => pm_iload_n (pc := 36) d_Gr_set_36 rfl) ?_
  obtain ⟨f_7, hf_8, gf_9⟩ := id H.2.1
  refine px (fun _ => pm_aald (kd := 3) (Cn := "GraphRunner$Slot") (j := j) (pc := 37) d_Gr_set_37 (fun _ => rfl) hf_8 (rfl) (hj) (by decide) (gf_9 j hj)) ?_
  refine px (fun _ => pm_getf fl_Gr_67 (pc := 38) d_Gr_set_38 (H.2.2.2.2.2.2.1 j hj).1 rfl) ?_
  refine px (fun _ => pm_getf fl_Gr_90 (pc := 41) d_Gr_set_41 (H.2.2.2.2.2.2.1 j hj).2.1 rfl) ?_
  refine px (fun _ => pm_dload (pc := 44) d_Gr_set_44 rfl) ?_
  refine px (fun _ => k_Gr_set_46 (kc1 := 0) (ks1 := 0) (kc := 0) (ks := 0) (av := [.int (nI (gT S j 0)), .double (v)]) (st := []) ((by have k9 := c_isSettable (l := l) (G := G) (fi := fi) (h := h) (t := gT S j 0) (v := v) hl (by omega); rw [if_pos hv] at k9; exact k9)) rfl rfl (Nat.le_of_ble_eq_true rfl)) ?_
  refine pxn (fun _ => pm_if_ne (pc := 49) (tgt := 60) d_Gr_set_49 (by decide)) (fun c_10 => ?_) (fun c_10 => absurd c_10 (by decide))
  refine px (fun _ => pm_aload_n (pc := 60) d_Gr_set_60 rfl) ?_
  refine px (fun _ => pm_getf fl_Gr_11 (pc := 61) d_Gr_set_61 H.1 rfl) ?_
  refine px (fun _ => pm_iload_n (pc := 64) d_Gr_set_64 rfl) ?_
  obtain ⟨f_11, hf_12, gf_13⟩ := id H.2.1
  refine px (fun _ => pm_aald (kd := 3) (Cn := "GraphRunner$Slot") (j := j) (pc := 65) d_Gr_set_65 (fun _ => rfl) hf_12 (rfl) (hj) (by decide) (gf_13 j hj)) ?_
  refine px (fun _ => pm_getf fl_Gr_67 (pc := 66) d_Gr_set_66 (H.2.2.2.2.2.2.1 j hj).1 rfl) ?_
  refine px (fun _ => pm_iload_n (pc := 69) d_Gr_set_69 rfl) ?_
  refine px (fun _ => pm_iload_n (pc := 70) d_Gr_set_70 rfl) ?_
  refine px (fun _ => pm_aload_n (pc := 71) d_Gr_set_71 rfl) ?_
  refine px (fun _ => pm_getf fl_Gr_11 (pc := 72) d_Gr_set_72 H.1 rfl) ?_
  refine px (fun _ => pm_iload_n (pc := 75) d_Gr_set_75 rfl) ?_
  obtain ⟨f_14, hf_15, gf_16⟩ := id H.2.1
  refine px (fun _ => pm_aald (kd := 3) (Cn := "GraphRunner$Slot") (j := j) (pc := 76) d_Gr_set_76 (fun _ => rfl) hf_15 (rfl) (hj) (by decide) (gf_16 j hj)) ?_
  refine px (fun _ => pm_getf fl_Gr_67 (pc := 77) d_Gr_set_77 (H.2.2.2.2.2.2.1 j hj).1 rfl) ?_
  refine px (fun _ => pm_getf fl_Gr_90 (pc := 80) d_Gr_set_80 (H.2.2.2.2.2.2.1 j hj).2.1 rfl) ?_
  refine px (fun _ => pm_iconst (v := 1) (pc := 83) d_Gr_set_83 rfl) ?_
  refine pxn (fun _ => pm_icmp_ne (pc := 84) (tgt := 94) d_Gr_set_84 (by decide)) (fun c_17 => absurd (by rw [htt]; rfl) c_17) (fun c_17 => ?_)
  refine px (fun _ => pm_dload (pc := 87) d_Gr_set_87 rfl) ?_
  refine px (fun _ => pm_d2i (pc := 89) d_Gr_set_89) ?_
  refine px (fun _ => pm_i2d (pc := 90) d_Gr_set_90) ?_
  refine px (fun _ => pm_goto (tgt := 96) (pc := 91) d_Gr_set_91 (by decide)) ?_
  obtain ⟨⟨o18, h18⟩, ⟨e18, H18, F18⟩, en18⟩ := c_put (l := l) (G := G) (fi := fi) (i := x) (k := y) (v := FP.i2d (FP.d2i v)) hl H hW hj (by omega) (by omega)
  dsimp only at e18 H18 F18
  subst e18
  refine px (fun _ => k_Gr_set_96 (kc1 := 0) (ks1 := 0) (kc := 0) (ks := 0) (av := [.int (nI x), .int (nI y), .double ((FP.i2d ((FP.d2i (v)))))]) (st := []) (H.2.2.2.2.2.2.1 j hj).2.1 (en18) rfl rfl (Nat.le_of_ble_eq_true rfl)) ?_
  refine px (fun _ => pm_aload_n (pc := 99) d_Gr_set_99 rfl) ?_
  refine px (fun _ => pm_getf fl_Gr_11 (pc := 100) d_Gr_set_100 H18.1 rfl) ?_
  refine px (fun _ => pm_iload_n (pc := 103) d_Gr_set_103 rfl) ?_
  obtain ⟨f_19, hf_20, gf_21⟩ := id H18.2.1
  refine px (fun _ => pm_aald (kd := 3) (Cn := "GraphRunner$Slot") (j := j) (pc := 104) d_Gr_set_104 (fun _ => rfl) hf_20 (rfl) (hj) (by decide) (gf_21 j hj)) ?_
  refine px (fun _ => pm_getf fl_Gr_64 (pc := 105) d_Gr_set_105 (H18.2.2.2.2.2.2.1 j hj).1 rfl) ?_
  refine px (fun _ => pm_iconst (v := 2) (pc := 108) d_Gr_set_108 rfl) ?_
  refine pxn (fun _ => pm_icmp_ne (pc := 109) (tgt := 119) d_Gr_set_109 (by decide)) (fun c_22 => ?_) (fun c_22 => absurd c_22 (by rw [show gK (gsC S j (va_up (gC S j) (x * 4 + y) (FP.i2d (FP.d2i v)))) j 0 = 1 from hkk]; decide))
  refine px (fun _ => pm_aload_n (pc := 119) d_Gr_set_119 rfl) ?_
  obtain ⟨⟨o23, h23⟩, ⟨e23, H23, F23⟩, en23⟩ := c_forget (l := l) (G := G) (fi := fi) hl H18 hW.C
  dsimp only at e23 H23 F23
  subst e23
  refine px (fun _ => k_Gr_set_120 (kc1 := 0) (ks1 := 0) (kc := 0) (ks := 0) (av := []) (st := []) H18.1 (en23) rfl rfl (Nat.le_of_ble_eq_true rfl)) ?_
  exact pxr (pm_vret (pc := 123) d_Gr_set_123 rfl) ⟨rfl, H23, (F18).tr (F23)⟩
set_option maxHeartbeats 4000000 in
set_option maxRecDepth 20000 in
theorem c_set_ok12 {l : Launch} {G : pm_G} {fi : Bool} {h : pm_H} {S : gS} {j x y : Nat} {v : UInt64} (hl : l.stackTraces = false) (H : gH S h) (hW : gW S) (hj : j < 20) (htt : gT S j 0 = 1) (hkk : gK S j 0 = 2) (hx : x < gT S j 1) (hy : y < gT S j 2) (hv : g_st (gT S j 0) v) : pm_Cn l G fi fi 0 0 M_Gr_set [.ref (0), .int (nI j), .int (nI x), .int (nI y), .double (v)] h (fun x9 => x9.1 = .inl none ∧ gH (g_unp (gsC S j (va_up (gC S j) (x * 4 + y) (FP.i2d (FP.d2i v))))) x9.2 ∧ gFr h x9.2) := by
  refine pm_Cn.of hl (by decide) (Nat.le_of_ble_eq_true rfl) ?_
  obtain ⟨b1, b2, b3, b4, b5, b6⟩ := id hW
  have bj := b5 j hj
  refine px (fun _ => pm_iload_n (pc := 0) d_Gr_set_0 rfl) ?_
  refine px (fun _ => k_Gr_set_1 (kc1 := 0) (ks1 := 0) (kc := 0) (ks := 0) (av := [.int (nI j)]) (st := []) (c_isSlot_in hl hj) rfl rfl (Nat.le_of_ble_eq_true rfl)) ?_
  refine pxb (fun _ => pm_if_eq (pc := 4) (tgt := 52) d_Gr_set_4 (by decide)) (fun c_1 => absurd c_1 (by decide)) (fun c_1 => ?_)
  refine px (fun _ => pm_aload_n (pc := 7) d_Gr_set_7 rfl) ?_
  refine px (fun _ => pm_iload_n (pc := 8) d_Gr_set_8 rfl) ?_
  refine px (fun _ => k_Gr_set_9 (kc1 := 0) (ks1 := 0) (kc := 0) (ks := 0) (av := [.int (nI j)]) (st := []) H.1 ((by have k9 := c_isFed (l := l) (G := G) (fi := fi) hl H hW hj; rw [if_pos (by omega)] at k9; exact k9)) rfl rfl (Nat.le_of_ble_eq_true rfl)) ?_
  refine pxb (fun _ => pm_if_eq (pc := 12) (tgt := 52) d_Gr_set_12 (by decide)) (fun c_2 => absurd c_2 (by decide)) (fun c_2 => ?_)
  refine px (fun _ => pm_aload_n (pc := 15) d_Gr_set_15 rfl) ?_
  refine px (fun _ => pm_getf fl_Gr_11 (pc := 16) d_Gr_set_16 H.1 rfl) ?_
  refine px (fun _ => pm_iload_n (pc := 19) d_Gr_set_19 rfl) ?_
  obtain ⟨f_3, hf_4, gf_5⟩ := id H.2.1
  refine px (fun _ => pm_aald (kd := 3) (Cn := "GraphRunner$Slot") (j := j) (pc := 20) d_Gr_set_20 (fun _ => rfl) hf_4 (rfl) (hj) (by decide) (gf_5 j hj)) ?_
  refine px (fun _ => pm_getf fl_Gr_67 (pc := 21) d_Gr_set_21 (H.2.2.2.2.2.2.1 j hj).1 rfl) ?_
  refine px (fun _ => pm_iload_n (pc := 24) d_Gr_set_24 rfl) ?_
  refine px (fun _ => pm_iload_n (pc := 25) d_Gr_set_25 rfl) ?_
  refine px (fun _ => k_Gr_set_26 (kc1 := 0) (ks1 := 0) (kc := 0) (ks := 0) (av := [.int (nI x), .int (nI y)]) (st := []) (H.2.2.2.2.2.2.1 j hj).2.1 ((by have k9 := c_Tb_has (l := l) (G := G) (fi := fi) (i := nI x) (j := nI y) hl (H.2.2.2.2.2.2.1 j hj).2.1; rw [if_pos ⟨nI_pos (by omega), fun q => absurd ((nI_leI (a := gT S j 1) (b := x) (by omega) (by omega)).mp q) (by omega), nI_pos (by omega), fun q => absurd ((nI_leI (a := gT S j 2) (b := y) (by omega) (by omega)).mp q) (by omega)⟩] at k9; exact k9)) rfl rfl (Nat.le_of_ble_eq_true rfl)) ?_
  refine pxb (fun _ => pm_if_eq (pc := 29) (tgt := 52) d_Gr_set_29 (by decide)) (fun c_6 => absurd c_6 (by decide)) (fun c_6 => ?_)
  refine px (fun _ => pm_aload_n (pc := 32) d_Gr_set_32 rfl) ?_
  refine px (fun _ => pm_getf fl_Gr_11 (pc := 33) d_Gr_set_33 H.1 rfl) ?_
  refine px (fun _ => pm_iload_n (pc := 36) d_Gr_set_36 rfl) ?_
  obtain ⟨f_7, hf_8, gf_9⟩ := id H.2.1
  refine px (fun _ => pm_aald (kd := 3) (Cn := "GraphRunner$Slot") (j := j) (pc := 37) d_Gr_set_37 (fun _ => rfl) hf_8 (rfl) (hj) (by decide) (gf_9 j hj)) ?_
  refine px (fun _ => pm_getf fl_Gr_67 (pc := 38) d_Gr_set_38 (H.2.2.2.2.2.2.1 j hj).1 rfl) ?_
  refine px (fun _ => pm_getf fl_Gr_90 (pc := 41) d_Gr_set_41 (H.2.2.2.2.2.2.1 j hj).2.1 rfl) ?_
  refine px (fun _ => pm_dload (pc := 44) d_Gr_set_44 rfl) ?_
  refine px (fun _ => k_Gr_set_46 (kc1 := 0) (ks1 := 0) (kc := 0) (ks := 0) (av := [.int (nI (gT S j 0)), .double (v)]) (st := []) ((by have k9 := c_isSettable (l := l) (G := G) (fi := fi) (h := h) (t := gT S j 0) (v := v) hl (by omega); rw [if_pos hv] at k9; exact k9)) rfl rfl (Nat.le_of_ble_eq_true rfl)) ?_
  refine pxn (fun _ => pm_if_ne (pc := 49) (tgt := 60) d_Gr_set_49 (by decide)) (fun c_10 => ?_) (fun c_10 => absurd c_10 (by decide))
  refine px (fun _ => pm_aload_n (pc := 60) d_Gr_set_60 rfl) ?_
  refine px (fun _ => pm_getf fl_Gr_11 (pc := 61) d_Gr_set_61 H.1 rfl) ?_
  refine px (fun _ => pm_iload_n (pc := 64) d_Gr_set_64 rfl) ?_
  obtain ⟨f_11, hf_12, gf_13⟩ := id H.2.1
  refine px (fun _ => pm_aald (kd := 3) (Cn := "GraphRunner$Slot") (j := j) (pc := 65) d_Gr_set_65 (fun _ => rfl) hf_12 (rfl) (hj) (by decide) (gf_13 j hj)) ?_
  refine px (fun _ => pm_getf fl_Gr_67 (pc := 66) d_Gr_set_66 (H.2.2.2.2.2.2.1 j hj).1 rfl) ?_
  refine px (fun _ => pm_iload_n (pc := 69) d_Gr_set_69 rfl) ?_
  refine px (fun _ => pm_iload_n (pc := 70) d_Gr_set_70 rfl) ?_
  refine px (fun _ => pm_aload_n (pc := 71) d_Gr_set_71 rfl) ?_
  refine px (fun _ => pm_getf fl_Gr_11 (pc := 72) d_Gr_set_72 H.1 rfl) ?_
  refine px (fun _ => pm_iload_n (pc := 75) d_Gr_set_75 rfl) ?_
  obtain ⟨f_14, hf_15, gf_16⟩ := id H.2.1
  refine px (fun _ => pm_aald (kd := 3) (Cn := "GraphRunner$Slot") (j := j) (pc := 76) d_Gr_set_76 (fun _ => rfl) hf_15 (rfl) (hj) (by decide) (gf_16 j hj)) ?_
  refine px (fun _ => pm_getf fl_Gr_67 (pc := 77) d_Gr_set_77 (H.2.2.2.2.2.2.1 j hj).1 rfl) ?_
  refine px (fun _ => pm_getf fl_Gr_90 (pc := 80) d_Gr_set_80 (H.2.2.2.2.2.2.1 j hj).2.1 rfl) ?_
  refine px (fun _ => pm_iconst (v := 1) (pc := 83) d_Gr_set_83 rfl) ?_
  refine pxn (fun _ => pm_icmp_ne (pc := 84) (tgt := 94) d_Gr_set_84 (by decide)) (fun c_17 => absurd (by rw [htt]; rfl) c_17) (fun c_17 => ?_)
  refine px (fun _ => pm_dload (pc := 87) d_Gr_set_87 rfl) ?_
  refine px (fun _ => pm_d2i (pc := 89) d_Gr_set_89) ?_
  refine px (fun _ => pm_i2d (pc := 90) d_Gr_set_90) ?_
  refine px (fun _ => pm_goto (tgt := 96) (pc := 91) d_Gr_set_91 (by decide)) ?_
  obtain ⟨⟨o18, h18⟩, ⟨e18, H18, F18⟩, en18⟩ := c_put (l := l) (G := G) (fi := fi) (i := x) (k := y) (v := FP.i2d (FP.d2i v)) hl H hW hj (by omega) (by omega)
  dsimp only at e18 H18 F18
  subst e18
  refine px (fun _ => k_Gr_set_96 (kc1 := 0) (ks1 := 0) (kc := 0) (ks := 0) (av := [.int (nI x), .int (nI y), .double ((FP.i2d ((FP.d2i (v)))))]) (st := []) (H.2.2.2.2.2.2.1 j hj).2.1 (en18) rfl rfl (Nat.le_of_ble_eq_true rfl)) ?_
  refine px (fun _ => pm_aload_n (pc := 99) d_Gr_set_99 rfl) ?_
  refine px (fun _ => pm_getf fl_Gr_11 (pc := 100) d_Gr_set_100 H18.1 rfl) ?_
  refine px (fun _ => pm_iload_n (pc := 103) d_Gr_set_103 rfl) ?_
  obtain ⟨f_19, hf_20, gf_21⟩ := id H18.2.1
  refine px (fun _ => pm_aald (kd := 3) (Cn := "GraphRunner$Slot") (j := j) (pc := 104) d_Gr_set_104 (fun _ => rfl) hf_20 (rfl) (hj) (by decide) (gf_21 j hj)) ?_
  refine px (fun _ => pm_getf fl_Gr_64 (pc := 105) d_Gr_set_105 (H18.2.2.2.2.2.2.1 j hj).1 rfl) ?_
  refine px (fun _ => pm_iconst (v := 2) (pc := 108) d_Gr_set_108 rfl) ?_
  refine pxn (fun _ => pm_icmp_ne (pc := 109) (tgt := 119) d_Gr_set_109 (by decide)) (fun c_22 => absurd (by rw [show gK (gsC S j (va_up (gC S j) (x * 4 + y) (FP.i2d (FP.d2i v)))) j 0 = 2 from hkk]; rfl) c_22) (fun c_22 => ?_)
  refine px (fun _ => pm_aload_n (pc := 112) d_Gr_set_112 rfl) ?_
  obtain ⟨⟨o23, h23⟩, ⟨e23, H23, F23⟩, en23⟩ := c_unprep (l := l) (G := G) (fi := fi) hl H18 hW.C
  dsimp only at e23 H23 F23
  subst e23
  refine px (fun _ => k_Gr_set_113 (kc1 := 0) (ks1 := 0) (kc := 0) (ks := 0) (av := []) (st := []) H18.1 (en23) rfl rfl (Nat.le_of_ble_eq_true rfl)) ?_
  refine px (fun _ => pm_goto (tgt := 123) (pc := 116) d_Gr_set_116 (by decide)) ?_
  exact pxr (pm_vret (pc := 123) d_Gr_set_123 rfl) ⟨rfl, H23, (F18).tr (F23)⟩
