/-! ===== the model: shape ===== -/
theorem g_sh_y {t r c : Nat} (h : (1 ≤ r ∧ r ≤ 4) ∧ 1 ≤ c ∧ c ≤ 4) : g_sh t r c = some (t, r, c) := if_pos h
theorem g_sh_n {t r c : Nat} (h : ¬ ((1 ≤ r ∧ r ≤ 4) ∧ 1 ≤ c ∧ c ≤ 4)) : g_sh t r c = none := if_neg h
theorem iN_nI {k : Nat} (h : k < 1000) : iN (nI k) = k := by unfold iN; rw [nI_toInt (by omega)]; rfl
abbrev m_PX (T : mS) (o9 : Nat) (h : pm_H) (X : Option (Nat × Nat × Nat)) : pm_O × pm_H → Prop := fun r => r.1 = .inl (some (.int (if X.isSome = true then 1 else 0))) ∧ ∃ T', mH T' r.2 ∧ mFr h r.2 ∧ (T' = T ∨ ∃ t r c, T' = m_gv T o9 t r c) ∧ ∀ v, X = some v → T' = m_gv T o9 v.1 v.2.1 v.2.2
theorem m_PX_0 {T : mS} {o9 : Nat} {h h' : pm_H} {X : Option (Nat × Nat × Nat)} (H : mH T h') (F : mFr h h') (e : X = none) : m_PX T o9 h X (.inl (some (.int 0)), h') := by
  subst e
  exact ⟨rfl, T, H, F, Or.inl rfl, fun v q => nomatch q⟩
theorem m_PX_n {T : mS} {o9 t r c : Nat} {h h' : pm_H} {X : Option (Nat × Nat × Nat)} (H : mH (m_gv T o9 t r c) h') (F : mFr h h') (e : X = none) : m_PX T o9 h X (.inl (some (.int 0)), h') := by
  subst e
  exact ⟨rfl, _, H, F, Or.inr ⟨t, r, c, rfl⟩, fun v q => nomatch q⟩
theorem m_PX_y {T : mS} {o9 t r c : Nat} {h h' : pm_H} {X : Option (Nat × Nat × Nat)} (H : mH (m_gv T o9 t r c) h') (F : mFr h h') (e : X = some (t, r, c)) : m_PX T o9 h X (.inl (some (.int 1)), h') := by
  subst e
  exact ⟨rfl, _, H, F, Or.inr ⟨t, r, c, rfl⟩, fun v q => by cases q; rfl⟩
set_option maxHeartbeats 1000000 in
set_option maxRecDepth 20000 in
theorem m_give {l : Launch} {G : pm_G} {fi : Bool} {h : pm_H} {T : mS} {n o9 t r c : Nat} (hl : l.stackTraces = false) (H : mH T h) (hn : n < 14) (ho : mA T 7 n = o9) (ho9 : o9 < 20) (hr : r < 1000) (hc : c < 1000) : pm_Cn l G fi fi 0 0 M_Mo_give [.ref (95), .int (nI n), .int (nI t), .int (nI r), .int (nI c)] h (m_P (some (.int (if (1 ≤ r ∧ r ≤ 4) ∧ 1 ≤ c ∧ c ≤ 4 then 1 else 0))) (m_gv T o9 t r c) h) := by
  refine pm_Cn.of hl (by decide) (Nat.le_of_ble_eq_true rfl) ?_
  refine px (fun _ => pm_aload_n (pc := 0) d_Mo_give_0 rfl) ?_
  refine px (fun _ => pm_getf fl_Mo_32 (pc := 1) d_Mo_give_1 H.1 rfl) ?_
  refine px (fun _ => pm_iload_n (pc := 4) d_Mo_give_4 rfl) ?_
  refine px (fun _ => pm_iald (j := n) (pc := 5) d_Mo_give_5 H.2.2.2.2.2.2.2.2.1 (rfl) (hn) (by decide)) ?_
  rw [ho]
  refine px (fun _ => pm_istore (lv' := [(5, .int (nI o9)), (0, .ref (95)), (1, .int (nI n)), (2, .int (nI t)), (3, .int (nI r)), (4, .int (nI c))]) (pc := 6) d_Mo_give_6 (by decide) rfl) ?_
  refine px (fun _ => pm_aload_n (pc := 8) d_Mo_give_8 rfl) ?_
  refine px (fun _ => pm_getf fl_Mo_13 (pc := 9) d_Mo_give_9 H.1 rfl) ?_
  refine px (fun _ => pm_iload (pc := 12) d_Mo_give_12 rfl) ?_
  refine px (fun _ => pm_iload_n (pc := 14) d_Mo_give_14 rfl) ?_
  refine px (fun _ => pm_iast (j := o9) (pc := 15) d_Mo_give_15 H.2.2.1 (rfl) (ho9) (by decide)) ?_
  have H_1 : mH (msA T 1 o9 t) (h.set (97) (pm_I 20 (va_up (fun j => nI (mA T 1 j)) (o9) (nI t)))) := H.A1 (j := o9) (v := t)
  refine px (fun _ => pm_aload_n (pc := 16) d_Mo_give_16 rfl) ?_
  refine px (fun _ => pm_getf fl_Mo_16 (pc := 17) d_Mo_give_17 H_1.1 rfl) ?_
  refine px (fun _ => pm_iload (pc := 20) d_Mo_give_20 rfl) ?_
  refine px (fun _ => pm_iload_n (pc := 22) d_Mo_give_22 rfl) ?_
  refine px (fun _ => pm_iast (j := o9) (pc := 23) d_Mo_give_23 H_1.2.2.2.1 (rfl) (ho9) (by decide)) ?_
  have H_2 : mH (msA (msA T 1 o9 t) 2 o9 r) ((h.set (97) (pm_I 20 (va_up (fun j => nI (mA T 1 j)) (o9) (nI t)))).set (98) (pm_I 20 (va_up (fun j => nI (mA (msA T 1 o9 t) 2 j)) (o9) (nI r)))) := H_1.A2 (j := o9) (v := r)
  refine px (fun _ => pm_aload_n (pc := 24) d_Mo_give_24 rfl) ?_
  refine px (fun _ => pm_getf fl_Mo_19 (pc := 25) d_Mo_give_25 H_2.1 rfl) ?_
  refine px (fun _ => pm_iload (pc := 28) d_Mo_give_28 rfl) ?_
  refine px (fun _ => pm_iload (pc := 30) d_Mo_give_30 rfl) ?_
  refine px (fun _ => pm_iast (j := o9) (pc := 32) d_Mo_give_32 H_2.2.2.2.2.1 (rfl) (ho9) (by decide)) ?_
  have H_3 : mH (msA (msA (msA T 1 o9 t) 2 o9 r) 3 o9 c) (((h.set (97) (pm_I 20 (va_up (fun j => nI (mA T 1 j)) (o9) (nI t)))).set (98) (pm_I 20 (va_up (fun j => nI (mA (msA T 1 o9 t) 2 j)) (o9) (nI r)))).set (99) (pm_I 20 (va_up (fun j => nI (mA (msA (msA T 1 o9 t) 2 o9 r) 3 j)) (o9) (nI c)))) := H_2.A3 (j := o9) (v := c)
  refine px (fun _ => pm_iload_n (pc := 33) d_Mo_give_33 rfl) ?_
  refine px (fun _ => pm_iconst (v := 1) (pc := 34) d_Mo_give_34 rfl) ?_
  refine pxb (fun _ => pm_icmp_lt (pc := 35) (tgt := 59) d_Mo_give_35 (by decide)) (fun c_4 => ?_) (fun c_4 => ?_)
  · have n_c_4 : r < 1 := (nI_ltI (a := r) (b := 1) (by omega) (by omega)).mp c_4
    refine px (fun _ => pm_iconst (v := 0) (pc := 59) d_Mo_give_59 rfl) ?_
    exact pxr (pm_iret (pc := 60) d_Mo_give_60 rfl rfl) ⟨by rw [if_neg (by omega)], H_3, ((mFr.set _ _ (by omega))).tr (((mFr.set _ _ (by omega))).tr ((mFr.set _ _ (by omega))))⟩
  · have n_c_4 : ¬ (r < 1) := fun zq => c_4 ((nI_ltI (a := r) (b := 1) (by omega) (by omega)).mpr zq)
    refine px (fun _ => pm_iload_n (pc := 38) d_Mo_give_38 rfl) ?_
    refine px (fun _ => pm_iconst (v := 4) (pc := 39) d_Mo_give_39 rfl) ?_
    refine pxb (fun _ => pm_icmp_gt (pc := 40) (tgt := 59) d_Mo_give_40 (by decide)) (fun c_5 => ?_) (fun c_5 => ?_)
    · have n_c_5 : 4 < r := (nI_ltI (a := 4) (b := r) (by omega) (by omega)).mp c_5
      refine px (fun _ => pm_iconst (v := 0) (pc := 59) d_Mo_give_59 rfl) ?_
      exact pxr (pm_iret (pc := 60) d_Mo_give_60 rfl rfl) ⟨by rw [if_neg (by omega)], H_3, ((mFr.set _ _ (by omega))).tr (((mFr.set _ _ (by omega))).tr ((mFr.set _ _ (by omega))))⟩
    · have n_c_5 : ¬ (4 < r) := fun zq => c_5 ((nI_ltI (a := 4) (b := r) (by omega) (by omega)).mpr zq)
      refine px (fun _ => pm_iload (pc := 43) d_Mo_give_43 rfl) ?_
      refine px (fun _ => pm_iconst (v := 1) (pc := 45) d_Mo_give_45 rfl) ?_
      refine pxb (fun _ => pm_icmp_lt (pc := 46) (tgt := 59) d_Mo_give_46 (by decide)) (fun c_6 => ?_) (fun c_6 => ?_)
      · have n_c_6 : c < 1 := (nI_ltI (a := c) (b := 1) (by omega) (by omega)).mp c_6
        refine px (fun _ => pm_iconst (v := 0) (pc := 59) d_Mo_give_59 rfl) ?_
        exact pxr (pm_iret (pc := 60) d_Mo_give_60 rfl rfl) ⟨by rw [if_neg (by omega)], H_3, ((mFr.set _ _ (by omega))).tr (((mFr.set _ _ (by omega))).tr ((mFr.set _ _ (by omega))))⟩
      · have n_c_6 : ¬ (c < 1) := fun zq => c_6 ((nI_ltI (a := c) (b := 1) (by omega) (by omega)).mpr zq)
        refine px (fun _ => pm_iload (pc := 49) d_Mo_give_49 rfl) ?_
        refine px (fun _ => pm_iconst (v := 4) (pc := 51) d_Mo_give_51 rfl) ?_
        refine pxb (fun _ => pm_icmp_gt (pc := 52) (tgt := 59) d_Mo_give_52 (by decide)) (fun c_7 => ?_) (fun c_7 => ?_)
        · have n_c_7 : 4 < c := (nI_ltI (a := 4) (b := c) (by omega) (by omega)).mp c_7
          refine px (fun _ => pm_iconst (v := 0) (pc := 59) d_Mo_give_59 rfl) ?_
          exact pxr (pm_iret (pc := 60) d_Mo_give_60 rfl rfl) ⟨by rw [if_neg (by omega)], H_3, ((mFr.set _ _ (by omega))).tr (((mFr.set _ _ (by omega))).tr ((mFr.set _ _ (by omega))))⟩
        · have n_c_7 : ¬ (4 < c) := fun zq => c_7 ((nI_ltI (a := 4) (b := c) (by omega) (by omega)).mpr zq)
          refine px (fun _ => pm_iconst (v := 1) (pc := 55) d_Mo_give_55 rfl) ?_
          refine px (fun _ => pm_goto (tgt := 60) (pc := 56) d_Mo_give_56 (by decide)) ?_
          exact pxr (pm_iret (pc := 60) d_Mo_give_60 rfl rfl) ⟨by rw [if_pos (by omega)], H_3, ((mFr.set _ _ (by omega))).tr (((mFr.set _ _ (by omega))).tr ((mFr.set _ _ (by omega))))⟩
set_option maxHeartbeats 1000000 in
set_option maxRecDepth 20000 in
theorem m_fitting {l : Launch} {G : pm_G} {fi : Bool} {h : pm_H} {S : gS} {T : mS} {a b : Nat} (hl : l.stackTraces = false) (H : mH T h) (ha : a < 20) (hb : b < 20) (ta : mTb S T a) (tb : mTb S T b) (ra : g_rng S a) (rb : g_rng S b) : pm_En l G fi fi 0 0 M_Mo_fitting [.ref (95), .int (nI a), .int (nI b)] h (.inl (some (.int (if (gT S a 1 = gT S b 1 ∨ gT S a 1 = 1 ∨ gT S b 1 = 1) ∧ (gT S a 2 = gT S b 2 ∨ gT S a 2 = 1 ∨ gT S b 2 = 1) then 1 else 0))), h) := by
  refine pm_Cn.eq (pm_Cn.of hl (by decide) (Nat.le_of_ble_eq_true rfl) ?_)
  obtain ⟨r1, r2, r3, r4, r5⟩ := id ra
  obtain ⟨s1, s2, s3, s4, s5⟩ := id rb
  refine px (fun _ => pm_aload_n (pc := 0) d_Mo_fitting_0 rfl) ?_
  refine px (fun _ => pm_aload_n (pc := 1) d_Mo_fitting_1 rfl) ?_
  refine px (fun _ => pm_getf fl_Mo_16 (pc := 2) d_Mo_fitting_2 H.1 rfl) ?_
  refine px (fun _ => pm_iload_n (pc := 5) d_Mo_fitting_5 rfl) ?_
  refine px (fun _ => pm_iald (j := a) (pc := 6) d_Mo_fitting_6 H.2.2.2.1 (rfl) (ha) (by decide)) ?_
  rw [ta.2.1]
  refine px (fun _ => pm_aload_n (pc := 7) d_Mo_fitting_7 rfl) ?_
  refine px (fun _ => pm_getf fl_Mo_16 (pc := 8) d_Mo_fitting_8 H.1 rfl) ?_
  refine px (fun _ => pm_iload_n (pc := 11) d_Mo_fitting_11 rfl) ?_
  refine px (fun _ => pm_iald (j := b) (pc := 12) d_Mo_fitting_12 H.2.2.2.1 (rfl) (hb) (by decide)) ?_
  rw [tb.2.1]
  refine px (fun _ => k_Mo_fitting_13 (kc1 := 0) (ks1 := 0) (kc := 0) (ks := 0) (av := [.int (nI (gT S a 1)), .int (nI (gT S b 1))]) (st := []) H.1 (m_near hl H (by omega) (by omega)) rfl rfl (Nat.le_of_ble_eq_true rfl)) ?_
  refine pxb (fun _ => pm_if_eq (pc := 16) (tgt := 42) d_Mo_fitting_16 (by decide)) (fun c_1 => ?_) (fun c_1 => ?_)
  · have n_c_1 : ¬ ((gT S a 1 = gT S b 1 ∨ gT S a 1 = 1 ∨ gT S b 1 = 1)) := g_if0.mp c_1
    refine px (fun _ => pm_iconst (v := 0) (pc := 42) d_Mo_fitting_42 rfl) ?_
    exact pxr (pm_iret (pc := 43) d_Mo_fitting_43 rfl rfl) (by rw [if_neg (fun q => by first | exact absurd q.1 (by assumption) | exact absurd q.2 (by assumption))])
  · have n_c_1 : (gT S a 1 = gT S b 1 ∨ gT S a 1 = 1 ∨ gT S b 1 = 1) := Decidable.byContradiction fun q => c_1 (g_if0.mpr q)
    refine px (fun _ => pm_aload_n (pc := 19) d_Mo_fitting_19 rfl) ?_
    refine px (fun _ => pm_aload_n (pc := 20) d_Mo_fitting_20 rfl) ?_
    refine px (fun _ => pm_getf fl_Mo_19 (pc := 21) d_Mo_fitting_21 H.1 rfl) ?_
    refine px (fun _ => pm_iload_n (pc := 24) d_Mo_fitting_24 rfl) ?_
    refine px (fun _ => pm_iald (j := a) (pc := 25) d_Mo_fitting_25 H.2.2.2.2.1 (rfl) (ha) (by decide)) ?_
    rw [ta.2.2]
    refine px (fun _ => pm_aload_n (pc := 26) d_Mo_fitting_26 rfl) ?_
    refine px (fun _ => pm_getf fl_Mo_19 (pc := 27) d_Mo_fitting_27 H.1 rfl) ?_
    refine px (fun _ => pm_iload_n (pc := 30) d_Mo_fitting_30 rfl) ?_
    refine px (fun _ => pm_iald (j := b) (pc := 31) d_Mo_fitting_31 H.2.2.2.2.1 (rfl) (hb) (by decide)) ?_
    rw [tb.2.2]
    refine px (fun _ => k_Mo_fitting_32 (kc1 := 0) (ks1 := 0) (kc := 0) (ks := 0) (av := [.int (nI (gT S a 2)), .int (nI (gT S b 2))]) (st := []) H.1 (m_near hl H (by omega) (by omega)) rfl rfl (Nat.le_of_ble_eq_true rfl)) ?_
    refine pxb (fun _ => pm_if_eq (pc := 35) (tgt := 42) d_Mo_fitting_35 (by decide)) (fun c_2 => ?_) (fun c_2 => ?_)
    · have n_c_2 : ¬ ((gT S a 2 = gT S b 2 ∨ gT S a 2 = 1 ∨ gT S b 2 = 1)) := g_if0.mp c_2
      refine px (fun _ => pm_iconst (v := 0) (pc := 42) d_Mo_fitting_42 rfl) ?_
      exact pxr (pm_iret (pc := 43) d_Mo_fitting_43 rfl rfl) (by rw [if_neg (fun q => by first | exact absurd q.1 (by assumption) | exact absurd q.2 (by assumption))])
    · have n_c_2 : (gT S a 2 = gT S b 2 ∨ gT S a 2 = 1 ∨ gT S b 2 = 1) := Decidable.byContradiction fun q => c_2 (g_if0.mpr q)
      refine px (fun _ => pm_iconst (v := 1) (pc := 38) d_Mo_fitting_38 rfl) ?_
      refine px (fun _ => pm_goto (tgt := 43) (pc := 39) d_Mo_fitting_39 (by decide)) ?_
      exact pxr (pm_iret (pc := 43) d_Mo_fitting_43 rfl rfl) (by rw [if_pos ⟨by assumption, by assumption⟩])
set_option maxHeartbeats 1000000 in
set_option maxRecDepth 20000 in
theorem sh_pre1 {l : Launch} {G : pm_G} {fi : Bool} {Post : pm_O × pm_H → Prop} {h : pm_H} {S : gS} {T : mS} {n a k : Nat} (hl : l.stackTraces = false) (H : mH T h) (hn : n < 14) (hop : mA T 6 n = k) (ea : mQ T 12 (n * 3) = nI a) (ha : a < 20) (ta : mTb S T a) (ra : g_rng S a) (hk : k < 19) (har : m_ar k = 1) (K : pm_Px l G fi fi 0 0 M_Mo_shape 131 [(9, .int (nI (gT S a 2))), (8, .int (nI (gT S a 1))), (7, .int (if gT S a 0 = 0 ∧ gT S a 0 = 0 then 1 else 0)), (6, .int (if gT S a 0 = gT S a 0 then 1 else 0)), (5, .int (nI a)), (4, .int (nI a)), (3, .int (nI a)), (2, .int (nI k)), (0, .ref (95)), (1, .int (nI n))] [] h Post) : pm_Px l G fi fi 0 0 M_Mo_shape 0 [(0, .ref (95)), (1, .int (nI n))] [] h Post := by
  obtain ⟨r1, r2, r3, r4, r5⟩ := id ra
  refine px (fun _ => pm_aload_n (pc := 0) d_Mo_shape_0 rfl) ?_
  refine px (fun _ => pm_getf fl_Mo_29 (pc := 1) d_Mo_shape_1 H.1 rfl) ?_
  refine px (fun _ => pm_iload_n (pc := 4) d_Mo_shape_4 rfl) ?_
  refine px (fun _ => pm_iald (j := n) (pc := 5) d_Mo_shape_5 H.2.2.2.2.2.2.2.1 (rfl) (hn) (by decide)) ?_
  rw [hop]
  refine px (fun _ => pm_istore_n (lv' := [(2, .int (nI k)), (0, .ref (95)), (1, .int (nI n))]) (pc := 6) d_Mo_shape_6 (by decide) rfl) ?_
  refine px (fun _ => pm_aload_n (pc := 7) d_Mo_shape_7 rfl) ?_
  refine px (fun _ => pm_getf fl_Mo_47 (pc := 8) d_Mo_shape_8 H.1 rfl) ?_
  refine px (fun _ => pm_iload_n (pc := 11) d_Mo_shape_11 rfl) ?_
  refine px (fun _ => pm_iconst (v := 3) (pc := 12) d_Mo_shape_12 rfl) ?_
  refine px (fun _ => pm_imulN (a := n) (b := 3) (pc := 13) d_Mo_shape_13) ?_
  refine px (fun _ => pm_iald (j := n * 3) (pc := 14) d_Mo_shape_14 H.2.2.2.2.2.2.2.2.2.2.2.2.2.1 (rfl) (by omega) (by decide)) ?_
  rw [ea]
  refine px (fun _ => pm_istore_n (lv' := [(3, .int (nI a)), (2, .int (nI k)), (0, .ref (95)), (1, .int (nI n))]) (pc := 15) d_Mo_shape_15 (by decide) rfl) ?_
  refine px (fun _ => pm_aload_n (pc := 16) d_Mo_shape_16 rfl) ?_
  refine px (fun _ => pm_iload_n (pc := 17) d_Mo_shape_17 rfl) ?_
  refine px (fun _ => k_Mo_shape_18 (kc1 := 0) (ks1 := 0) (kc := 0) (ks := 0) (av := [.int (nI k)]) (st := []) H.1 (m_arity hl H hk) rfl rfl (Nat.le_of_ble_eq_true rfl)) ?_
  refine px (fun _ => pm_iconst (v := 1) (pc := 21) d_Mo_shape_21 rfl) ?_
  refine pxb (fun _ => pm_icmp_le (pc := 22) (tgt := 38) d_Mo_shape_22 (by decide)) (fun c_1 => ?_) (fun c_1 => absurd (by rw [har]; decide) c_1)
  refine px (fun _ => pm_iload_n (pc := 38) d_Mo_shape_38 rfl) ?_
  refine px (fun _ => pm_istore (lv' := [(4, .int (nI a)), (3, .int (nI a)), (2, .int (nI k)), (0, .ref (95)), (1, .int (nI n))]) (pc := 39) d_Mo_shape_39 (by decide) rfl) ?_
  refine px (fun _ => pm_aload_n (pc := 41) d_Mo_shape_41 rfl) ?_
  refine px (fun _ => pm_iload_n (pc := 42) d_Mo_shape_42 rfl) ?_
  refine px (fun _ => k_Mo_shape_43 (kc1 := 0) (ks1 := 0) (kc := 0) (ks := 0) (av := [.int (nI k)]) (st := []) H.1 (m_arity hl H hk) rfl rfl (Nat.le_of_ble_eq_true rfl)) ?_
  refine px (fun _ => pm_iconst (v := 2) (pc := 46) d_Mo_shape_46 rfl) ?_
  refine pxb (fun _ => pm_icmp_le (pc := 47) (tgt := 63) d_Mo_shape_47 (by decide)) (fun c_2 => ?_) (fun c_2 => absurd (by rw [har]; decide) c_2)
  refine px (fun _ => pm_iload_n (pc := 63) d_Mo_shape_63 rfl) ?_
  refine px (fun _ => pm_istore (lv' := [(5, .int (nI a)), (4, .int (nI a)), (3, .int (nI a)), (2, .int (nI k)), (0, .ref (95)), (1, .int (nI n))]) (pc := 64) d_Mo_shape_64 (by decide) rfl) ?_
  refine px (fun _ => pm_aload_n (pc := 66) d_Mo_shape_66 rfl) ?_
  refine px (fun _ => pm_getf fl_Mo_13 (pc := 67) d_Mo_shape_67 H.1 rfl) ?_
  refine px (fun _ => pm_iload_n (pc := 70) d_Mo_shape_70 rfl) ?_
  refine px (fun _ => pm_iald (j := a) (pc := 71) d_Mo_shape_71 H.2.2.1 (rfl) (ha) (by decide)) ?_
  rw [ta.1]
  refine px (fun _ => pm_aload_n (pc := 72) d_Mo_shape_72 rfl) ?_
  refine px (fun _ => pm_getf fl_Mo_13 (pc := 73) d_Mo_shape_73 H.1 rfl) ?_
  refine px (fun _ => pm_iload (pc := 76) d_Mo_shape_76 rfl) ?_
  refine px (fun _ => pm_iald (j := a) (pc := 78) d_Mo_shape_78 H.2.2.1 (rfl) (ha) (by decide)) ?_
  rw [ta.1]
  refine pxn (fun _ => pm_icmp_ne (pc := 79) (tgt := 86) d_Mo_shape_79 (by decide)) (fun c_3 => ?_) (fun c_3 => ?_)
  · have n_c_3 : ¬ ((gT S a 0) = (gT S a 0)) := fun zq => c_3 ((nI_eq (a := (gT S a 0)) (b := (gT S a 0)) (by omega) (by omega)).mpr zq)
    refine px (fun _ => pm_iconst (v := 0) (pc := 86) d_Mo_shape_86 rfl) ?_
    refine px (fun _ => pm_istore (lv' := [(6, .int (0)), (5, .int (nI a)), (4, .int (nI a)), (3, .int (nI a)), (2, .int (nI k)), (0, .ref (95)), (1, .int (nI n))]) (pc := 87) d_Mo_shape_87 (by decide) rfl) ?_
    refine px (fun _ => pm_aload_n (pc := 89) d_Mo_shape_89 rfl) ?_
    refine px (fun _ => pm_getf fl_Mo_13 (pc := 90) d_Mo_shape_90 H.1 rfl) ?_
    refine px (fun _ => pm_iload_n (pc := 93) d_Mo_shape_93 rfl) ?_
    refine px (fun _ => pm_iald (j := a) (pc := 94) d_Mo_shape_94 H.2.2.1 (rfl) (ha) (by decide)) ?_
    rw [ta.1]
    refine pxn (fun _ => pm_if_ne (pc := 95) (tgt := 112) d_Mo_shape_95 (by decide)) (fun c_4 => ?_) (fun c_4 => ?_)
    · have n_c_4 : ¬ ((gT S a 0) = 0) := fun zq => c_4 ((nI_eq (a := (gT S a 0)) (b := 0) (by omega) (by omega)).mpr zq)
      refine px (fun _ => pm_iconst (v := 0) (pc := 112) d_Mo_shape_112 rfl) ?_
      refine px (fun _ => pm_istore (lv' := [(7, .int (0)), (6, .int (0)), (5, .int (nI a)), (4, .int (nI a)), (3, .int (nI a)), (2, .int (nI k)), (0, .ref (95)), (1, .int (nI n))]) (pc := 113) d_Mo_shape_113 (by decide) rfl) ?_
      refine px (fun _ => pm_aload_n (pc := 115) d_Mo_shape_115 rfl) ?_
      refine px (fun _ => pm_getf fl_Mo_16 (pc := 116) d_Mo_shape_116 H.1 rfl) ?_
      refine px (fun _ => pm_iload_n (pc := 119) d_Mo_shape_119 rfl) ?_
      refine px (fun _ => pm_iald (j := a) (pc := 120) d_Mo_shape_120 H.2.2.2.1 (rfl) (ha) (by decide)) ?_
      rw [ta.2.1]
      refine px (fun _ => pm_istore (lv' := [(8, .int (nI (gT S a 1))), (7, .int (0)), (6, .int (0)), (5, .int (nI a)), (4, .int (nI a)), (3, .int (nI a)), (2, .int (nI k)), (0, .ref (95)), (1, .int (nI n))]) (pc := 121) d_Mo_shape_121 (by decide) rfl) ?_
      refine px (fun _ => pm_aload_n (pc := 123) d_Mo_shape_123 rfl) ?_
      refine px (fun _ => pm_getf fl_Mo_19 (pc := 124) d_Mo_shape_124 H.1 rfl) ?_
      refine px (fun _ => pm_iload_n (pc := 127) d_Mo_shape_127 rfl) ?_
      refine px (fun _ => pm_iald (j := a) (pc := 128) d_Mo_shape_128 H.2.2.2.2.1 (rfl) (ha) (by decide)) ?_
      rw [ta.2.2]
      refine px (fun _ => pm_istore (lv' := [(9, .int (nI (gT S a 2))), (8, .int (nI (gT S a 1))), (7, .int (0)), (6, .int (0)), (5, .int (nI a)), (4, .int (nI a)), (3, .int (nI a)), (2, .int (nI k)), (0, .ref (95)), (1, .int (nI n))]) (pc := 129) d_Mo_shape_129 (by decide) rfl) ?_
      refine pxd [0, 1, 2, 3, 4, 5, 6, 7, 8, 9] rfl ?_
      have K9 := K
      rw [show (if gT S a 0 = 0 ∧ gT S a 0 = 0 then (1 : Int32) else 0) = 0 from if_neg (by omega), show (if gT S a 0 = gT S a 0 then (1 : Int32) else 0) = 0 from if_neg (by omega)] at K9
      exact K9
    · have n_c_4 : (gT S a 0) = 0 := (nI_eq (a := (gT S a 0)) (b := 0) (by omega) (by omega)).mp c_4
      refine px (fun _ => pm_aload_n (pc := 98) d_Mo_shape_98 rfl) ?_
      refine px (fun _ => pm_getf fl_Mo_13 (pc := 99) d_Mo_shape_99 H.1 rfl) ?_
      refine px (fun _ => pm_iload (pc := 102) d_Mo_shape_102 rfl) ?_
      refine px (fun _ => pm_iald (j := a) (pc := 104) d_Mo_shape_104 H.2.2.1 (rfl) (ha) (by decide)) ?_
      rw [ta.1]
      refine pxn (fun _ => pm_if_ne (pc := 105) (tgt := 112) d_Mo_shape_105 (by decide)) (fun c_5 => ?_) (fun c_5 => ?_)
      · have n_c_5 : ¬ ((gT S a 0) = 0) := fun zq => c_5 ((nI_eq (a := (gT S a 0)) (b := 0) (by omega) (by omega)).mpr zq)
        refine px (fun _ => pm_iconst (v := 0) (pc := 112) d_Mo_shape_112 rfl) ?_
        refine px (fun _ => pm_istore (lv' := [(7, .int (0)), (6, .int (0)), (5, .int (nI a)), (4, .int (nI a)), (3, .int (nI a)), (2, .int (nI k)), (0, .ref (95)), (1, .int (nI n))]) (pc := 113) d_Mo_shape_113 (by decide) rfl) ?_
        refine px (fun _ => pm_aload_n (pc := 115) d_Mo_shape_115 rfl) ?_
        refine px (fun _ => pm_getf fl_Mo_16 (pc := 116) d_Mo_shape_116 H.1 rfl) ?_
        refine px (fun _ => pm_iload_n (pc := 119) d_Mo_shape_119 rfl) ?_
        refine px (fun _ => pm_iald (j := a) (pc := 120) d_Mo_shape_120 H.2.2.2.1 (rfl) (ha) (by decide)) ?_
        rw [ta.2.1]
        refine px (fun _ => pm_istore (lv' := [(8, .int (nI (gT S a 1))), (7, .int (0)), (6, .int (0)), (5, .int (nI a)), (4, .int (nI a)), (3, .int (nI a)), (2, .int (nI k)), (0, .ref (95)), (1, .int (nI n))]) (pc := 121) d_Mo_shape_121 (by decide) rfl) ?_
        refine px (fun _ => pm_aload_n (pc := 123) d_Mo_shape_123 rfl) ?_
        refine px (fun _ => pm_getf fl_Mo_19 (pc := 124) d_Mo_shape_124 H.1 rfl) ?_
        refine px (fun _ => pm_iload_n (pc := 127) d_Mo_shape_127 rfl) ?_
        refine px (fun _ => pm_iald (j := a) (pc := 128) d_Mo_shape_128 H.2.2.2.2.1 (rfl) (ha) (by decide)) ?_
        rw [ta.2.2]
        refine px (fun _ => pm_istore (lv' := [(9, .int (nI (gT S a 2))), (8, .int (nI (gT S a 1))), (7, .int (0)), (6, .int (0)), (5, .int (nI a)), (4, .int (nI a)), (3, .int (nI a)), (2, .int (nI k)), (0, .ref (95)), (1, .int (nI n))]) (pc := 129) d_Mo_shape_129 (by decide) rfl) ?_
        refine pxd [0, 1, 2, 3, 4, 5, 6, 7, 8, 9] rfl ?_
        have K9 := K
        rw [show (if gT S a 0 = 0 ∧ gT S a 0 = 0 then (1 : Int32) else 0) = 0 from if_neg (by omega), show (if gT S a 0 = gT S a 0 then (1 : Int32) else 0) = 0 from if_neg (by omega)] at K9
        exact K9
      · have n_c_5 : (gT S a 0) = 0 := (nI_eq (a := (gT S a 0)) (b := 0) (by omega) (by omega)).mp c_5
        refine px (fun _ => pm_iconst (v := 1) (pc := 108) d_Mo_shape_108 rfl) ?_
        refine px (fun _ => pm_goto (tgt := 113) (pc := 109) d_Mo_shape_109 (by decide)) ?_
        refine px (fun _ => pm_istore (lv' := [(7, .int (1)), (6, .int (0)), (5, .int (nI a)), (4, .int (nI a)), (3, .int (nI a)), (2, .int (nI k)), (0, .ref (95)), (1, .int (nI n))]) (pc := 113) d_Mo_shape_113 (by decide) rfl) ?_
        refine px (fun _ => pm_aload_n (pc := 115) d_Mo_shape_115 rfl) ?_
        refine px (fun _ => pm_getf fl_Mo_16 (pc := 116) d_Mo_shape_116 H.1 rfl) ?_
        refine px (fun _ => pm_iload_n (pc := 119) d_Mo_shape_119 rfl) ?_
        refine px (fun _ => pm_iald (j := a) (pc := 120) d_Mo_shape_120 H.2.2.2.1 (rfl) (ha) (by decide)) ?_
        rw [ta.2.1]
        refine px (fun _ => pm_istore (lv' := [(8, .int (nI (gT S a 1))), (7, .int (1)), (6, .int (0)), (5, .int (nI a)), (4, .int (nI a)), (3, .int (nI a)), (2, .int (nI k)), (0, .ref (95)), (1, .int (nI n))]) (pc := 121) d_Mo_shape_121 (by decide) rfl) ?_
        refine px (fun _ => pm_aload_n (pc := 123) d_Mo_shape_123 rfl) ?_
        refine px (fun _ => pm_getf fl_Mo_19 (pc := 124) d_Mo_shape_124 H.1 rfl) ?_
        refine px (fun _ => pm_iload_n (pc := 127) d_Mo_shape_127 rfl) ?_
        refine px (fun _ => pm_iald (j := a) (pc := 128) d_Mo_shape_128 H.2.2.2.2.1 (rfl) (ha) (by decide)) ?_
        rw [ta.2.2]
        refine px (fun _ => pm_istore (lv' := [(9, .int (nI (gT S a 2))), (8, .int (nI (gT S a 1))), (7, .int (1)), (6, .int (0)), (5, .int (nI a)), (4, .int (nI a)), (3, .int (nI a)), (2, .int (nI k)), (0, .ref (95)), (1, .int (nI n))]) (pc := 129) d_Mo_shape_129 (by decide) rfl) ?_
        refine pxd [0, 1, 2, 3, 4, 5, 6, 7, 8, 9] rfl ?_
        have K9 := K
        rw [show (if gT S a 0 = 0 ∧ gT S a 0 = 0 then (1 : Int32) else 0) = 1 from if_pos (by omega), show (if gT S a 0 = gT S a 0 then (1 : Int32) else 0) = 0 from if_neg (by omega)] at K9
        exact K9
  · have n_c_3 : (gT S a 0) = (gT S a 0) := (nI_eq (a := (gT S a 0)) (b := (gT S a 0)) (by omega) (by omega)).mp c_3
    refine px (fun _ => pm_iconst (v := 1) (pc := 82) d_Mo_shape_82 rfl) ?_
    refine px (fun _ => pm_goto (tgt := 87) (pc := 83) d_Mo_shape_83 (by decide)) ?_
    refine px (fun _ => pm_istore (lv' := [(6, .int (1)), (5, .int (nI a)), (4, .int (nI a)), (3, .int (nI a)), (2, .int (nI k)), (0, .ref (95)), (1, .int (nI n))]) (pc := 87) d_Mo_shape_87 (by decide) rfl) ?_
    refine px (fun _ => pm_aload_n (pc := 89) d_Mo_shape_89 rfl) ?_
    refine px (fun _ => pm_getf fl_Mo_13 (pc := 90) d_Mo_shape_90 H.1 rfl) ?_
    refine px (fun _ => pm_iload_n (pc := 93) d_Mo_shape_93 rfl) ?_
    refine px (fun _ => pm_iald (j := a) (pc := 94) d_Mo_shape_94 H.2.2.1 (rfl) (ha) (by decide)) ?_
    rw [ta.1]
    refine pxn (fun _ => pm_if_ne (pc := 95) (tgt := 112) d_Mo_shape_95 (by decide)) (fun c_6 => ?_) (fun c_6 => ?_)
    · have n_c_6 : ¬ ((gT S a 0) = 0) := fun zq => c_6 ((nI_eq (a := (gT S a 0)) (b := 0) (by omega) (by omega)).mpr zq)
      refine px (fun _ => pm_iconst (v := 0) (pc := 112) d_Mo_shape_112 rfl) ?_
      refine px (fun _ => pm_istore (lv' := [(7, .int (0)), (6, .int (1)), (5, .int (nI a)), (4, .int (nI a)), (3, .int (nI a)), (2, .int (nI k)), (0, .ref (95)), (1, .int (nI n))]) (pc := 113) d_Mo_shape_113 (by decide) rfl) ?_
      refine px (fun _ => pm_aload_n (pc := 115) d_Mo_shape_115 rfl) ?_
      refine px (fun _ => pm_getf fl_Mo_16 (pc := 116) d_Mo_shape_116 H.1 rfl) ?_
      refine px (fun _ => pm_iload_n (pc := 119) d_Mo_shape_119 rfl) ?_
      refine px (fun _ => pm_iald (j := a) (pc := 120) d_Mo_shape_120 H.2.2.2.1 (rfl) (ha) (by decide)) ?_
      rw [ta.2.1]
      refine px (fun _ => pm_istore (lv' := [(8, .int (nI (gT S a 1))), (7, .int (0)), (6, .int (1)), (5, .int (nI a)), (4, .int (nI a)), (3, .int (nI a)), (2, .int (nI k)), (0, .ref (95)), (1, .int (nI n))]) (pc := 121) d_Mo_shape_121 (by decide) rfl) ?_
      refine px (fun _ => pm_aload_n (pc := 123) d_Mo_shape_123 rfl) ?_
      refine px (fun _ => pm_getf fl_Mo_19 (pc := 124) d_Mo_shape_124 H.1 rfl) ?_
      refine px (fun _ => pm_iload_n (pc := 127) d_Mo_shape_127 rfl) ?_
      refine px (fun _ => pm_iald (j := a) (pc := 128) d_Mo_shape_128 H.2.2.2.2.1 (rfl) (ha) (by decide)) ?_
      rw [ta.2.2]
      refine px (fun _ => pm_istore (lv' := [(9, .int (nI (gT S a 2))), (8, .int (nI (gT S a 1))), (7, .int (0)), (6, .int (1)), (5, .int (nI a)), (4, .int (nI a)), (3, .int (nI a)), (2, .int (nI k)), (0, .ref (95)), (1, .int (nI n))]) (pc := 129) d_Mo_shape_129 (by decide) rfl) ?_
      refine pxd [0, 1, 2, 3, 4, 5, 6, 7, 8, 9] rfl ?_
      have K9 := K
      rw [show (if gT S a 0 = 0 ∧ gT S a 0 = 0 then (1 : Int32) else 0) = 0 from if_neg (by omega), show (if gT S a 0 = gT S a 0 then (1 : Int32) else 0) = 1 from if_pos (by omega)] at K9
      exact K9
    · have n_c_6 : (gT S a 0) = 0 := (nI_eq (a := (gT S a 0)) (b := 0) (by omega) (by omega)).mp c_6
      refine px (fun _ => pm_aload_n (pc := 98) d_Mo_shape_98 rfl) ?_
      refine px (fun _ => pm_getf fl_Mo_13 (pc := 99) d_Mo_shape_99 H.1 rfl) ?_
      refine px (fun _ => pm_iload (pc := 102) d_Mo_shape_102 rfl) ?_
      refine px (fun _ => pm_iald (j := a) (pc := 104) d_Mo_shape_104 H.2.2.1 (rfl) (ha) (by decide)) ?_
      rw [ta.1]
      refine pxn (fun _ => pm_if_ne (pc := 105) (tgt := 112) d_Mo_shape_105 (by decide)) (fun c_7 => ?_) (fun c_7 => ?_)
      · have n_c_7 : ¬ ((gT S a 0) = 0) := fun zq => c_7 ((nI_eq (a := (gT S a 0)) (b := 0) (by omega) (by omega)).mpr zq)
        refine px (fun _ => pm_iconst (v := 0) (pc := 112) d_Mo_shape_112 rfl) ?_
        refine px (fun _ => pm_istore (lv' := [(7, .int (0)), (6, .int (1)), (5, .int (nI a)), (4, .int (nI a)), (3, .int (nI a)), (2, .int (nI k)), (0, .ref (95)), (1, .int (nI n))]) (pc := 113) d_Mo_shape_113 (by decide) rfl) ?_
        refine px (fun _ => pm_aload_n (pc := 115) d_Mo_shape_115 rfl) ?_
        refine px (fun _ => pm_getf fl_Mo_16 (pc := 116) d_Mo_shape_116 H.1 rfl) ?_
        refine px (fun _ => pm_iload_n (pc := 119) d_Mo_shape_119 rfl) ?_
        refine px (fun _ => pm_iald (j := a) (pc := 120) d_Mo_shape_120 H.2.2.2.1 (rfl) (ha) (by decide)) ?_
        rw [ta.2.1]
        refine px (fun _ => pm_istore (lv' := [(8, .int (nI (gT S a 1))), (7, .int (0)), (6, .int (1)), (5, .int (nI a)), (4, .int (nI a)), (3, .int (nI a)), (2, .int (nI k)), (0, .ref (95)), (1, .int (nI n))]) (pc := 121) d_Mo_shape_121 (by decide) rfl) ?_
        refine px (fun _ => pm_aload_n (pc := 123) d_Mo_shape_123 rfl) ?_
        refine px (fun _ => pm_getf fl_Mo_19 (pc := 124) d_Mo_shape_124 H.1 rfl) ?_
        refine px (fun _ => pm_iload_n (pc := 127) d_Mo_shape_127 rfl) ?_
        refine px (fun _ => pm_iald (j := a) (pc := 128) d_Mo_shape_128 H.2.2.2.2.1 (rfl) (ha) (by decide)) ?_
        rw [ta.2.2]
        refine px (fun _ => pm_istore (lv' := [(9, .int (nI (gT S a 2))), (8, .int (nI (gT S a 1))), (7, .int (0)), (6, .int (1)), (5, .int (nI a)), (4, .int (nI a)), (3, .int (nI a)), (2, .int (nI k)), (0, .ref (95)), (1, .int (nI n))]) (pc := 129) d_Mo_shape_129 (by decide) rfl) ?_
        refine pxd [0, 1, 2, 3, 4, 5, 6, 7, 8, 9] rfl ?_
        have K9 := K
        rw [show (if gT S a 0 = 0 ∧ gT S a 0 = 0 then (1 : Int32) else 0) = 0 from if_neg (by omega), show (if gT S a 0 = gT S a 0 then (1 : Int32) else 0) = 1 from if_pos (by omega)] at K9
        exact K9
      · have n_c_7 : (gT S a 0) = 0 := (nI_eq (a := (gT S a 0)) (b := 0) (by omega) (by omega)).mp c_7
        refine px (fun _ => pm_iconst (v := 1) (pc := 108) d_Mo_shape_108 rfl) ?_
        refine px (fun _ => pm_goto (tgt := 113) (pc := 109) d_Mo_shape_109 (by decide)) ?_
        refine px (fun _ => pm_istore (lv' := [(7, .int (1)), (6, .int (1)), (5, .int (nI a)), (4, .int (nI a)), (3, .int (nI a)), (2, .int (nI k)), (0, .ref (95)), (1, .int (nI n))]) (pc := 113) d_Mo_shape_113 (by decide) rfl) ?_
        refine px (fun _ => pm_aload_n (pc := 115) d_Mo_shape_115 rfl) ?_
        refine px (fun _ => pm_getf fl_Mo_16 (pc := 116) d_Mo_shape_116 H.1 rfl) ?_
        refine px (fun _ => pm_iload_n (pc := 119) d_Mo_shape_119 rfl) ?_
        refine px (fun _ => pm_iald (j := a) (pc := 120) d_Mo_shape_120 H.2.2.2.1 (rfl) (ha) (by decide)) ?_
        rw [ta.2.1]
        refine px (fun _ => pm_istore (lv' := [(8, .int (nI (gT S a 1))), (7, .int (1)), (6, .int (1)), (5, .int (nI a)), (4, .int (nI a)), (3, .int (nI a)), (2, .int (nI k)), (0, .ref (95)), (1, .int (nI n))]) (pc := 121) d_Mo_shape_121 (by decide) rfl) ?_
        refine px (fun _ => pm_aload_n (pc := 123) d_Mo_shape_123 rfl) ?_
        refine px (fun _ => pm_getf fl_Mo_19 (pc := 124) d_Mo_shape_124 H.1 rfl) ?_
        refine px (fun _ => pm_iload_n (pc := 127) d_Mo_shape_127 rfl) ?_
        refine px (fun _ => pm_iald (j := a) (pc := 128) d_Mo_shape_128 H.2.2.2.2.1 (rfl) (ha) (by decide)) ?_
        rw [ta.2.2]
        refine px (fun _ => pm_istore (lv' := [(9, .int (nI (gT S a 2))), (8, .int (nI (gT S a 1))), (7, .int (1)), (6, .int (1)), (5, .int (nI a)), (4, .int (nI a)), (3, .int (nI a)), (2, .int (nI k)), (0, .ref (95)), (1, .int (nI n))]) (pc := 129) d_Mo_shape_129 (by decide) rfl) ?_
        refine pxd [0, 1, 2, 3, 4, 5, 6, 7, 8, 9] rfl ?_
        have K9 := K
        rw [show (if gT S a 0 = 0 ∧ gT S a 0 = 0 then (1 : Int32) else 0) = 1 from if_pos (by omega), show (if gT S a 0 = gT S a 0 then (1 : Int32) else 0) = 1 from if_pos (by omega)] at K9
        exact K9
set_option maxHeartbeats 1000000 in
set_option maxRecDepth 20000 in
theorem sh_pre2 {l : Launch} {G : pm_G} {fi : Bool} {Post : pm_O × pm_H → Prop} {h : pm_H} {S : gS} {T : mS} {n a b k : Nat} (hl : l.stackTraces = false) (H : mH T h) (hn : n < 14) (hop : mA T 6 n = k) (ea : mQ T 12 (n * 3) = nI a) (ha : a < 20) (ta : mTb S T a) (ra : g_rng S a) (eb : mQ T 12 (n * 3 + 1) = nI b) (hb : b < 20) (tb : mTb S T b) (rb : g_rng S b) (hk : k < 19) (har : m_ar k = 2) (K : pm_Px l G fi fi 0 0 M_Mo_shape 131 [(9, .int (nI (gT S a 2))), (8, .int (nI (gT S a 1))), (7, .int (if gT S a 0 = 0 ∧ gT S b 0 = 0 then 1 else 0)), (6, .int (if gT S a 0 = gT S b 0 then 1 else 0)), (5, .int (nI a)), (4, .int (nI b)), (3, .int (nI a)), (2, .int (nI k)), (0, .ref (95)), (1, .int (nI n))] [] h Post) : pm_Px l G fi fi 0 0 M_Mo_shape 0 [(0, .ref (95)), (1, .int (nI n))] [] h Post := by
  obtain ⟨r1, r2, r3, r4, r5⟩ := id ra
  obtain ⟨s1, s2, s3, s4, s5⟩ := id rb
  refine px (fun _ => pm_aload_n (pc := 0) d_Mo_shape_0 rfl) ?_
  refine px (fun _ => pm_getf fl_Mo_29 (pc := 1) d_Mo_shape_1 H.1 rfl) ?_
  refine px (fun _ => pm_iload_n (pc := 4) d_Mo_shape_4 rfl) ?_
  refine px (fun _ => pm_iald (j := n) (pc := 5) d_Mo_shape_5 H.2.2.2.2.2.2.2.1 (rfl) (hn) (by decide)) ?_
  rw [hop]
  refine px (fun _ => pm_istore_n (lv' := [(2, .int (nI k)), (0, .ref (95)), (1, .int (nI n))]) (pc := 6) d_Mo_shape_6 (by decide) rfl) ?_
  refine px (fun _ => pm_aload_n (pc := 7) d_Mo_shape_7 rfl) ?_
  refine px (fun _ => pm_getf fl_Mo_47 (pc := 8) d_Mo_shape_8 H.1 rfl) ?_
  refine px (fun _ => pm_iload_n (pc := 11) d_Mo_shape_11 rfl) ?_
  refine px (fun _ => pm_iconst (v := 3) (pc := 12) d_Mo_shape_12 rfl) ?_
  refine px (fun _ => pm_imulN (a := n) (b := 3) (pc := 13) d_Mo_shape_13) ?_
  refine px (fun _ => pm_iald (j := n * 3) (pc := 14) d_Mo_shape_14 H.2.2.2.2.2.2.2.2.2.2.2.2.2.1 (rfl) (by omega) (by decide)) ?_
  rw [ea]
  refine px (fun _ => pm_istore_n (lv' := [(3, .int (nI a)), (2, .int (nI k)), (0, .ref (95)), (1, .int (nI n))]) (pc := 15) d_Mo_shape_15 (by decide) rfl) ?_
  refine px (fun _ => pm_aload_n (pc := 16) d_Mo_shape_16 rfl) ?_
  refine px (fun _ => pm_iload_n (pc := 17) d_Mo_shape_17 rfl) ?_
  refine px (fun _ => k_Mo_shape_18 (kc1 := 0) (ks1 := 0) (kc := 0) (ks := 0) (av := [.int (nI k)]) (st := []) H.1 (m_arity hl H hk) rfl rfl (Nat.le_of_ble_eq_true rfl)) ?_
  refine px (fun _ => pm_iconst (v := 1) (pc := 21) d_Mo_shape_21 rfl) ?_
  refine pxb (fun _ => pm_icmp_le (pc := 22) (tgt := 38) d_Mo_shape_22 (by decide)) (fun c_1 => absurd c_1 (by rw [har]; decide)) (fun c_1 => ?_)
  refine px (fun _ => pm_aload_n (pc := 25) d_Mo_shape_25 rfl) ?_
  refine px (fun _ => pm_getf fl_Mo_47 (pc := 26) d_Mo_shape_26 H.1 rfl) ?_
  refine px (fun _ => pm_iload_n (pc := 29) d_Mo_shape_29 rfl) ?_
  refine px (fun _ => pm_iconst (v := 3) (pc := 30) d_Mo_shape_30 rfl) ?_
  refine px (fun _ => pm_imulN (a := n) (b := 3) (pc := 31) d_Mo_shape_31) ?_
  refine px (fun _ => pm_iconst (v := 1) (pc := 32) d_Mo_shape_32 rfl) ?_
  refine px (fun _ => pm_iaddN (a := (n * 3)) (b := 1) (pc := 33) d_Mo_shape_33) ?_
  refine px (fun _ => pm_iald (j := n * 3 + 1) (pc := 34) d_Mo_shape_34 H.2.2.2.2.2.2.2.2.2.2.2.2.2.1 (rfl) (by omega) (by decide)) ?_
  rw [eb]
  refine px (fun _ => pm_goto (tgt := 39) (pc := 35) d_Mo_shape_35 (by decide)) ?_
  refine px (fun _ => pm_istore (lv' := [(4, .int (nI b)), (3, .int (nI a)), (2, .int (nI k)), (0, .ref (95)), (1, .int (nI n))]) (pc := 39) d_Mo_shape_39 (by decide) rfl) ?_
  refine px (fun _ => pm_aload_n (pc := 41) d_Mo_shape_41 rfl) ?_
  refine px (fun _ => pm_iload_n (pc := 42) d_Mo_shape_42 rfl) ?_
  refine px (fun _ => k_Mo_shape_43 (kc1 := 0) (ks1 := 0) (kc := 0) (ks := 0) (av := [.int (nI k)]) (st := []) H.1 (m_arity hl H hk) rfl rfl (Nat.le_of_ble_eq_true rfl)) ?_
  refine px (fun _ => pm_iconst (v := 2) (pc := 46) d_Mo_shape_46 rfl) ?_
  refine pxb (fun _ => pm_icmp_le (pc := 47) (tgt := 63) d_Mo_shape_47 (by decide)) (fun c_2 => ?_) (fun c_2 => absurd (by rw [har]; decide) c_2)
  refine px (fun _ => pm_iload_n (pc := 63) d_Mo_shape_63 rfl) ?_
  refine px (fun _ => pm_istore (lv' := [(5, .int (nI a)), (4, .int (nI b)), (3, .int (nI a)), (2, .int (nI k)), (0, .ref (95)), (1, .int (nI n))]) (pc := 64) d_Mo_shape_64 (by decide) rfl) ?_
  refine px (fun _ => pm_aload_n (pc := 66) d_Mo_shape_66 rfl) ?_
  refine px (fun _ => pm_getf fl_Mo_13 (pc := 67) d_Mo_shape_67 H.1 rfl) ?_
  refine px (fun _ => pm_iload_n (pc := 70) d_Mo_shape_70 rfl) ?_
  refine px (fun _ => pm_iald (j := a) (pc := 71) d_Mo_shape_71 H.2.2.1 (rfl) (ha) (by decide)) ?_
  rw [ta.1]
  refine px (fun _ => pm_aload_n (pc := 72) d_Mo_shape_72 rfl) ?_
  refine px (fun _ => pm_getf fl_Mo_13 (pc := 73) d_Mo_shape_73 H.1 rfl) ?_
  refine px (fun _ => pm_iload (pc := 76) d_Mo_shape_76 rfl) ?_
  refine px (fun _ => pm_iald (j := b) (pc := 78) d_Mo_shape_78 H.2.2.1 (rfl) (hb) (by decide)) ?_
  rw [tb.1]
  refine pxn (fun _ => pm_icmp_ne (pc := 79) (tgt := 86) d_Mo_shape_79 (by decide)) (fun c_3 => ?_) (fun c_3 => ?_)
  · have n_c_3 : ¬ ((gT S a 0) = (gT S b 0)) := fun zq => c_3 ((nI_eq (a := (gT S a 0)) (b := (gT S b 0)) (by omega) (by omega)).mpr zq)
    refine px (fun _ => pm_iconst (v := 0) (pc := 86) d_Mo_shape_86 rfl) ?_
    refine px (fun _ => pm_istore (lv' := [(6, .int (0)), (5, .int (nI a)), (4, .int (nI b)), (3, .int (nI a)), (2, .int (nI k)), (0, .ref (95)), (1, .int (nI n))]) (pc := 87) d_Mo_shape_87 (by decide) rfl) ?_
    refine px (fun _ => pm_aload_n (pc := 89) d_Mo_shape_89 rfl) ?_
    refine px (fun _ => pm_getf fl_Mo_13 (pc := 90) d_Mo_shape_90 H.1 rfl) ?_
    refine px (fun _ => pm_iload_n (pc := 93) d_Mo_shape_93 rfl) ?_
    refine px (fun _ => pm_iald (j := a) (pc := 94) d_Mo_shape_94 H.2.2.1 (rfl) (ha) (by decide)) ?_
    rw [ta.1]
    refine pxn (fun _ => pm_if_ne (pc := 95) (tgt := 112) d_Mo_shape_95 (by decide)) (fun c_4 => ?_) (fun c_4 => ?_)
    · have n_c_4 : ¬ ((gT S a 0) = 0) := fun zq => c_4 ((nI_eq (a := (gT S a 0)) (b := 0) (by omega) (by omega)).mpr zq)
      refine px (fun _ => pm_iconst (v := 0) (pc := 112) d_Mo_shape_112 rfl) ?_
      refine px (fun _ => pm_istore (lv' := [(7, .int (0)), (6, .int (0)), (5, .int (nI a)), (4, .int (nI b)), (3, .int (nI a)), (2, .int (nI k)), (0, .ref (95)), (1, .int (nI n))]) (pc := 113) d_Mo_shape_113 (by decide) rfl) ?_
      refine px (fun _ => pm_aload_n (pc := 115) d_Mo_shape_115 rfl) ?_
      refine px (fun _ => pm_getf fl_Mo_16 (pc := 116) d_Mo_shape_116 H.1 rfl) ?_
      refine px (fun _ => pm_iload_n (pc := 119) d_Mo_shape_119 rfl) ?_
      refine px (fun _ => pm_iald (j := a) (pc := 120) d_Mo_shape_120 H.2.2.2.1 (rfl) (ha) (by decide)) ?_
      rw [ta.2.1]
      refine px (fun _ => pm_istore (lv' := [(8, .int (nI (gT S a 1))), (7, .int (0)), (6, .int (0)), (5, .int (nI a)), (4, .int (nI b)), (3, .int (nI a)), (2, .int (nI k)), (0, .ref (95)), (1, .int (nI n))]) (pc := 121) d_Mo_shape_121 (by decide) rfl) ?_
      refine px (fun _ => pm_aload_n (pc := 123) d_Mo_shape_123 rfl) ?_
      refine px (fun _ => pm_getf fl_Mo_19 (pc := 124) d_Mo_shape_124 H.1 rfl) ?_
      refine px (fun _ => pm_iload_n (pc := 127) d_Mo_shape_127 rfl) ?_
      refine px (fun _ => pm_iald (j := a) (pc := 128) d_Mo_shape_128 H.2.2.2.2.1 (rfl) (ha) (by decide)) ?_
      rw [ta.2.2]
      refine px (fun _ => pm_istore (lv' := [(9, .int (nI (gT S a 2))), (8, .int (nI (gT S a 1))), (7, .int (0)), (6, .int (0)), (5, .int (nI a)), (4, .int (nI b)), (3, .int (nI a)), (2, .int (nI k)), (0, .ref (95)), (1, .int (nI n))]) (pc := 129) d_Mo_shape_129 (by decide) rfl) ?_
      refine pxd [0, 1, 2, 3, 4, 5, 6, 7, 8, 9] rfl ?_
      have K9 := K
      rw [show (if gT S a 0 = 0 ∧ gT S b 0 = 0 then (1 : Int32) else 0) = 0 from if_neg (by omega), show (if gT S a 0 = gT S b 0 then (1 : Int32) else 0) = 0 from if_neg (by omega)] at K9
      exact K9
    · have n_c_4 : (gT S a 0) = 0 := (nI_eq (a := (gT S a 0)) (b := 0) (by omega) (by omega)).mp c_4
      refine px (fun _ => pm_aload_n (pc := 98) d_Mo_shape_98 rfl) ?_
      refine px (fun _ => pm_getf fl_Mo_13 (pc := 99) d_Mo_shape_99 H.1 rfl) ?_
      refine px (fun _ => pm_iload (pc := 102) d_Mo_shape_102 rfl) ?_
      refine px (fun _ => pm_iald (j := b) (pc := 104) d_Mo_shape_104 H.2.2.1 (rfl) (hb) (by decide)) ?_
      rw [tb.1]
      refine pxn (fun _ => pm_if_ne (pc := 105) (tgt := 112) d_Mo_shape_105 (by decide)) (fun c_5 => ?_) (fun c_5 => ?_)
      · have n_c_5 : ¬ ((gT S b 0) = 0) := fun zq => c_5 ((nI_eq (a := (gT S b 0)) (b := 0) (by omega) (by omega)).mpr zq)
        refine px (fun _ => pm_iconst (v := 0) (pc := 112) d_Mo_shape_112 rfl) ?_
        refine px (fun _ => pm_istore (lv' := [(7, .int (0)), (6, .int (0)), (5, .int (nI a)), (4, .int (nI b)), (3, .int (nI a)), (2, .int (nI k)), (0, .ref (95)), (1, .int (nI n))]) (pc := 113) d_Mo_shape_113 (by decide) rfl) ?_
        refine px (fun _ => pm_aload_n (pc := 115) d_Mo_shape_115 rfl) ?_
        refine px (fun _ => pm_getf fl_Mo_16 (pc := 116) d_Mo_shape_116 H.1 rfl) ?_
        refine px (fun _ => pm_iload_n (pc := 119) d_Mo_shape_119 rfl) ?_
        refine px (fun _ => pm_iald (j := a) (pc := 120) d_Mo_shape_120 H.2.2.2.1 (rfl) (ha) (by decide)) ?_
        rw [ta.2.1]
        refine px (fun _ => pm_istore (lv' := [(8, .int (nI (gT S a 1))), (7, .int (0)), (6, .int (0)), (5, .int (nI a)), (4, .int (nI b)), (3, .int (nI a)), (2, .int (nI k)), (0, .ref (95)), (1, .int (nI n))]) (pc := 121) d_Mo_shape_121 (by decide) rfl) ?_
        refine px (fun _ => pm_aload_n (pc := 123) d_Mo_shape_123 rfl) ?_
        refine px (fun _ => pm_getf fl_Mo_19 (pc := 124) d_Mo_shape_124 H.1 rfl) ?_
        refine px (fun _ => pm_iload_n (pc := 127) d_Mo_shape_127 rfl) ?_
        refine px (fun _ => pm_iald (j := a) (pc := 128) d_Mo_shape_128 H.2.2.2.2.1 (rfl) (ha) (by decide)) ?_
        rw [ta.2.2]
        refine px (fun _ => pm_istore (lv' := [(9, .int (nI (gT S a 2))), (8, .int (nI (gT S a 1))), (7, .int (0)), (6, .int (0)), (5, .int (nI a)), (4, .int (nI b)), (3, .int (nI a)), (2, .int (nI k)), (0, .ref (95)), (1, .int (nI n))]) (pc := 129) d_Mo_shape_129 (by decide) rfl) ?_
        refine pxd [0, 1, 2, 3, 4, 5, 6, 7, 8, 9] rfl ?_
        have K9 := K
        rw [show (if gT S a 0 = 0 ∧ gT S b 0 = 0 then (1 : Int32) else 0) = 0 from if_neg (by omega), show (if gT S a 0 = gT S b 0 then (1 : Int32) else 0) = 0 from if_neg (by omega)] at K9
        exact K9
      · have n_c_5 : (gT S b 0) = 0 := (nI_eq (a := (gT S b 0)) (b := 0) (by omega) (by omega)).mp c_5
        refine px (fun _ => pm_iconst (v := 1) (pc := 108) d_Mo_shape_108 rfl) ?_
        refine px (fun _ => pm_goto (tgt := 113) (pc := 109) d_Mo_shape_109 (by decide)) ?_
        refine px (fun _ => pm_istore (lv' := [(7, .int (1)), (6, .int (0)), (5, .int (nI a)), (4, .int (nI b)), (3, .int (nI a)), (2, .int (nI k)), (0, .ref (95)), (1, .int (nI n))]) (pc := 113) d_Mo_shape_113 (by decide) rfl) ?_
        refine px (fun _ => pm_aload_n (pc := 115) d_Mo_shape_115 rfl) ?_
        refine px (fun _ => pm_getf fl_Mo_16 (pc := 116) d_Mo_shape_116 H.1 rfl) ?_
        refine px (fun _ => pm_iload_n (pc := 119) d_Mo_shape_119 rfl) ?_
        refine px (fun _ => pm_iald (j := a) (pc := 120) d_Mo_shape_120 H.2.2.2.1 (rfl) (ha) (by decide)) ?_
        rw [ta.2.1]
        refine px (fun _ => pm_istore (lv' := [(8, .int (nI (gT S a 1))), (7, .int (1)), (6, .int (0)), (5, .int (nI a)), (4, .int (nI b)), (3, .int (nI a)), (2, .int (nI k)), (0, .ref (95)), (1, .int (nI n))]) (pc := 121) d_Mo_shape_121 (by decide) rfl) ?_
        refine px (fun _ => pm_aload_n (pc := 123) d_Mo_shape_123 rfl) ?_
        refine px (fun _ => pm_getf fl_Mo_19 (pc := 124) d_Mo_shape_124 H.1 rfl) ?_
        refine px (fun _ => pm_iload_n (pc := 127) d_Mo_shape_127 rfl) ?_
        refine px (fun _ => pm_iald (j := a) (pc := 128) d_Mo_shape_128 H.2.2.2.2.1 (rfl) (ha) (by decide)) ?_
        rw [ta.2.2]
        refine px (fun _ => pm_istore (lv' := [(9, .int (nI (gT S a 2))), (8, .int (nI (gT S a 1))), (7, .int (1)), (6, .int (0)), (5, .int (nI a)), (4, .int (nI b)), (3, .int (nI a)), (2, .int (nI k)), (0, .ref (95)), (1, .int (nI n))]) (pc := 129) d_Mo_shape_129 (by decide) rfl) ?_
        refine pxd [0, 1, 2, 3, 4, 5, 6, 7, 8, 9] rfl ?_
        have K9 := K
        rw [show (if gT S a 0 = 0 ∧ gT S b 0 = 0 then (1 : Int32) else 0) = 1 from if_pos (by omega), show (if gT S a 0 = gT S b 0 then (1 : Int32) else 0) = 0 from if_neg (by omega)] at K9
        exact K9
  · have n_c_3 : (gT S a 0) = (gT S b 0) := (nI_eq (a := (gT S a 0)) (b := (gT S b 0)) (by omega) (by omega)).mp c_3
    refine px (fun _ => pm_iconst (v := 1) (pc := 82) d_Mo_shape_82 rfl) ?_
    refine px (fun _ => pm_goto (tgt := 87) (pc := 83) d_Mo_shape_83 (by decide)) ?_
    refine px (fun _ => pm_istore (lv' := [(6, .int (1)), (5, .int (nI a)), (4, .int (nI b)), (3, .int (nI a)), (2, .int (nI k)), (0, .ref (95)), (1, .int (nI n))]) (pc := 87) d_Mo_shape_87 (by decide) rfl) ?_
    refine px (fun _ => pm_aload_n (pc := 89) d_Mo_shape_89 rfl) ?_
    refine px (fun _ => pm_getf fl_Mo_13 (pc := 90) d_Mo_shape_90 H.1 rfl) ?_
    refine px (fun _ => pm_iload_n (pc := 93) d_Mo_shape_93 rfl) ?_
    refine px (fun _ => pm_iald (j := a) (pc := 94) d_Mo_shape_94 H.2.2.1 (rfl) (ha) (by decide)) ?_
    rw [ta.1]
    refine pxn (fun _ => pm_if_ne (pc := 95) (tgt := 112) d_Mo_shape_95 (by decide)) (fun c_6 => ?_) (fun c_6 => ?_)
    · have n_c_6 : ¬ ((gT S a 0) = 0) := fun zq => c_6 ((nI_eq (a := (gT S a 0)) (b := 0) (by omega) (by omega)).mpr zq)
      refine px (fun _ => pm_iconst (v := 0) (pc := 112) d_Mo_shape_112 rfl) ?_
      refine px (fun _ => pm_istore (lv' := [(7, .int (0)), (6, .int (1)), (5, .int (nI a)), (4, .int (nI b)), (3, .int (nI a)), (2, .int (nI k)), (0, .ref (95)), (1, .int (nI n))]) (pc := 113) d_Mo_shape_113 (by decide) rfl) ?_
      refine px (fun _ => pm_aload_n (pc := 115) d_Mo_shape_115 rfl) ?_
      refine px (fun _ => pm_getf fl_Mo_16 (pc := 116) d_Mo_shape_116 H.1 rfl) ?_
      refine px (fun _ => pm_iload_n (pc := 119) d_Mo_shape_119 rfl) ?_
      refine px (fun _ => pm_iald (j := a) (pc := 120) d_Mo_shape_120 H.2.2.2.1 (rfl) (ha) (by decide)) ?_
      rw [ta.2.1]
      refine px (fun _ => pm_istore (lv' := [(8, .int (nI (gT S a 1))), (7, .int (0)), (6, .int (1)), (5, .int (nI a)), (4, .int (nI b)), (3, .int (nI a)), (2, .int (nI k)), (0, .ref (95)), (1, .int (nI n))]) (pc := 121) d_Mo_shape_121 (by decide) rfl) ?_
      refine px (fun _ => pm_aload_n (pc := 123) d_Mo_shape_123 rfl) ?_
      refine px (fun _ => pm_getf fl_Mo_19 (pc := 124) d_Mo_shape_124 H.1 rfl) ?_
      refine px (fun _ => pm_iload_n (pc := 127) d_Mo_shape_127 rfl) ?_
      refine px (fun _ => pm_iald (j := a) (pc := 128) d_Mo_shape_128 H.2.2.2.2.1 (rfl) (ha) (by decide)) ?_
      rw [ta.2.2]
      refine px (fun _ => pm_istore (lv' := [(9, .int (nI (gT S a 2))), (8, .int (nI (gT S a 1))), (7, .int (0)), (6, .int (1)), (5, .int (nI a)), (4, .int (nI b)), (3, .int (nI a)), (2, .int (nI k)), (0, .ref (95)), (1, .int (nI n))]) (pc := 129) d_Mo_shape_129 (by decide) rfl) ?_
      refine pxd [0, 1, 2, 3, 4, 5, 6, 7, 8, 9] rfl ?_
      have K9 := K
      rw [show (if gT S a 0 = 0 ∧ gT S b 0 = 0 then (1 : Int32) else 0) = 0 from if_neg (by omega), show (if gT S a 0 = gT S b 0 then (1 : Int32) else 0) = 1 from if_pos (by omega)] at K9
      exact K9
    · have n_c_6 : (gT S a 0) = 0 := (nI_eq (a := (gT S a 0)) (b := 0) (by omega) (by omega)).mp c_6
      refine px (fun _ => pm_aload_n (pc := 98) d_Mo_shape_98 rfl) ?_
      refine px (fun _ => pm_getf fl_Mo_13 (pc := 99) d_Mo_shape_99 H.1 rfl) ?_
      refine px (fun _ => pm_iload (pc := 102) d_Mo_shape_102 rfl) ?_
      refine px (fun _ => pm_iald (j := b) (pc := 104) d_Mo_shape_104 H.2.2.1 (rfl) (hb) (by decide)) ?_
      rw [tb.1]
      refine pxn (fun _ => pm_if_ne (pc := 105) (tgt := 112) d_Mo_shape_105 (by decide)) (fun c_7 => ?_) (fun c_7 => ?_)
      · have n_c_7 : ¬ ((gT S b 0) = 0) := fun zq => c_7 ((nI_eq (a := (gT S b 0)) (b := 0) (by omega) (by omega)).mpr zq)
        refine px (fun _ => pm_iconst (v := 0) (pc := 112) d_Mo_shape_112 rfl) ?_
        refine px (fun _ => pm_istore (lv' := [(7, .int (0)), (6, .int (1)), (5, .int (nI a)), (4, .int (nI b)), (3, .int (nI a)), (2, .int (nI k)), (0, .ref (95)), (1, .int (nI n))]) (pc := 113) d_Mo_shape_113 (by decide) rfl) ?_
        refine px (fun _ => pm_aload_n (pc := 115) d_Mo_shape_115 rfl) ?_
        refine px (fun _ => pm_getf fl_Mo_16 (pc := 116) d_Mo_shape_116 H.1 rfl) ?_
        refine px (fun _ => pm_iload_n (pc := 119) d_Mo_shape_119 rfl) ?_
        refine px (fun _ => pm_iald (j := a) (pc := 120) d_Mo_shape_120 H.2.2.2.1 (rfl) (ha) (by decide)) ?_
        rw [ta.2.1]
        refine px (fun _ => pm_istore (lv' := [(8, .int (nI (gT S a 1))), (7, .int (0)), (6, .int (1)), (5, .int (nI a)), (4, .int (nI b)), (3, .int (nI a)), (2, .int (nI k)), (0, .ref (95)), (1, .int (nI n))]) (pc := 121) d_Mo_shape_121 (by decide) rfl) ?_
        refine px (fun _ => pm_aload_n (pc := 123) d_Mo_shape_123 rfl) ?_
        refine px (fun _ => pm_getf fl_Mo_19 (pc := 124) d_Mo_shape_124 H.1 rfl) ?_
        refine px (fun _ => pm_iload_n (pc := 127) d_Mo_shape_127 rfl) ?_
        refine px (fun _ => pm_iald (j := a) (pc := 128) d_Mo_shape_128 H.2.2.2.2.1 (rfl) (ha) (by decide)) ?_
        rw [ta.2.2]
        refine px (fun _ => pm_istore (lv' := [(9, .int (nI (gT S a 2))), (8, .int (nI (gT S a 1))), (7, .int (0)), (6, .int (1)), (5, .int (nI a)), (4, .int (nI b)), (3, .int (nI a)), (2, .int (nI k)), (0, .ref (95)), (1, .int (nI n))]) (pc := 129) d_Mo_shape_129 (by decide) rfl) ?_
        refine pxd [0, 1, 2, 3, 4, 5, 6, 7, 8, 9] rfl ?_
        have K9 := K
        rw [show (if gT S a 0 = 0 ∧ gT S b 0 = 0 then (1 : Int32) else 0) = 0 from if_neg (by omega), show (if gT S a 0 = gT S b 0 then (1 : Int32) else 0) = 1 from if_pos (by omega)] at K9
        exact K9
      · have n_c_7 : (gT S b 0) = 0 := (nI_eq (a := (gT S b 0)) (b := 0) (by omega) (by omega)).mp c_7
        refine px (fun _ => pm_iconst (v := 1) (pc := 108) d_Mo_shape_108 rfl) ?_
        refine px (fun _ => pm_goto (tgt := 113) (pc := 109) d_Mo_shape_109 (by decide)) ?_
        refine px (fun _ => pm_istore (lv' := [(7, .int (1)), (6, .int (1)), (5, .int (nI a)), (4, .int (nI b)), (3, .int (nI a)), (2, .int (nI k)), (0, .ref (95)), (1, .int (nI n))]) (pc := 113) d_Mo_shape_113 (by decide) rfl) ?_
        refine px (fun _ => pm_aload_n (pc := 115) d_Mo_shape_115 rfl) ?_
        refine px (fun _ => pm_getf fl_Mo_16 (pc := 116) d_Mo_shape_116 H.1 rfl) ?_
        refine px (fun _ => pm_iload_n (pc := 119) d_Mo_shape_119 rfl) ?_
        refine px (fun _ => pm_iald (j := a) (pc := 120) d_Mo_shape_120 H.2.2.2.1 (rfl) (ha) (by decide)) ?_
        rw [ta.2.1]
        refine px (fun _ => pm_istore (lv' := [(8, .int (nI (gT S a 1))), (7, .int (1)), (6, .int (1)), (5, .int (nI a)), (4, .int (nI b)), (3, .int (nI a)), (2, .int (nI k)), (0, .ref (95)), (1, .int (nI n))]) (pc := 121) d_Mo_shape_121 (by decide) rfl) ?_
        refine px (fun _ => pm_aload_n (pc := 123) d_Mo_shape_123 rfl) ?_
        refine px (fun _ => pm_getf fl_Mo_19 (pc := 124) d_Mo_shape_124 H.1 rfl) ?_
        refine px (fun _ => pm_iload_n (pc := 127) d_Mo_shape_127 rfl) ?_
        refine px (fun _ => pm_iald (j := a) (pc := 128) d_Mo_shape_128 H.2.2.2.2.1 (rfl) (ha) (by decide)) ?_
        rw [ta.2.2]
        refine px (fun _ => pm_istore (lv' := [(9, .int (nI (gT S a 2))), (8, .int (nI (gT S a 1))), (7, .int (1)), (6, .int (1)), (5, .int (nI a)), (4, .int (nI b)), (3, .int (nI a)), (2, .int (nI k)), (0, .ref (95)), (1, .int (nI n))]) (pc := 129) d_Mo_shape_129 (by decide) rfl) ?_
        refine pxd [0, 1, 2, 3, 4, 5, 6, 7, 8, 9] rfl ?_
        have K9 := K
        rw [show (if gT S a 0 = 0 ∧ gT S b 0 = 0 then (1 : Int32) else 0) = 1 from if_pos (by omega), show (if gT S a 0 = gT S b 0 then (1 : Int32) else 0) = 1 from if_pos (by omega)] at K9
        exact K9
set_option maxHeartbeats 1000000 in
set_option maxRecDepth 20000 in
theorem sh_pre3 {l : Launch} {G : pm_G} {fi : Bool} {Post : pm_O × pm_H → Prop} {h : pm_H} {S : gS} {T : mS} {n a b c k : Nat} (hl : l.stackTraces = false) (H : mH T h) (hn : n < 14) (hop : mA T 6 n = k) (ea : mQ T 12 (n * 3) = nI a) (ha : a < 20) (ta : mTb S T a) (ra : g_rng S a) (eb : mQ T 12 (n * 3 + 1) = nI b) (hb : b < 20) (tb : mTb S T b) (rb : g_rng S b) (ec : mQ T 12 (n * 3 + 2) = nI c) (hc : c < 20) (tc : mTb S T c) (rc : g_rng S c) (hk : k < 19) (har : m_ar k = 3) (K : pm_Px l G fi fi 0 0 M_Mo_shape 131 [(9, .int (nI (gT S a 2))), (8, .int (nI (gT S a 1))), (7, .int (if gT S a 0 = 0 ∧ gT S b 0 = 0 then 1 else 0)), (6, .int (if gT S a 0 = gT S b 0 then 1 else 0)), (5, .int (nI c)), (4, .int (nI b)), (3, .int (nI a)), (2, .int (nI k)), (0, .ref (95)), (1, .int (nI n))] [] h Post) : pm_Px l G fi fi 0 0 M_Mo_shape 0 [(0, .ref (95)), (1, .int (nI n))] [] h Post := by
  obtain ⟨r1, r2, r3, r4, r5⟩ := id ra
  obtain ⟨s1, s2, s3, s4, s5⟩ := id rb
  obtain ⟨q1, q2, q3, q4, q5⟩ := id rc
  refine px (fun _ => pm_aload_n (pc := 0) d_Mo_shape_0 rfl) ?_
  refine px (fun _ => pm_getf fl_Mo_29 (pc := 1) d_Mo_shape_1 H.1 rfl) ?_
  refine px (fun _ => pm_iload_n (pc := 4) d_Mo_shape_4 rfl) ?_
  refine px (fun _ => pm_iald (j := n) (pc := 5) d_Mo_shape_5 H.2.2.2.2.2.2.2.1 (rfl) (hn) (by decide)) ?_
  rw [hop]
  refine px (fun _ => pm_istore_n (lv' := [(2, .int (nI k)), (0, .ref (95)), (1, .int (nI n))]) (pc := 6) d_Mo_shape_6 (by decide) rfl) ?_
  refine px (fun _ => pm_aload_n (pc := 7) d_Mo_shape_7 rfl) ?_
  refine px (fun _ => pm_getf fl_Mo_47 (pc := 8) d_Mo_shape_8 H.1 rfl) ?_
  refine px (fun _ => pm_iload_n (pc := 11) d_Mo_shape_11 rfl) ?_
  refine px (fun _ => pm_iconst (v := 3) (pc := 12) d_Mo_shape_12 rfl) ?_
  refine px (fun _ => pm_imulN (a := n) (b := 3) (pc := 13) d_Mo_shape_13) ?_
  refine px (fun _ => pm_iald (j := n * 3) (pc := 14) d_Mo_shape_14 H.2.2.2.2.2.2.2.2.2.2.2.2.2.1 (rfl) (by omega) (by decide)) ?_
  rw [ea]
  refine px (fun _ => pm_istore_n (lv' := [(3, .int (nI a)), (2, .int (nI k)), (0, .ref (95)), (1, .int (nI n))]) (pc := 15) d_Mo_shape_15 (by decide) rfl) ?_
  refine px (fun _ => pm_aload_n (pc := 16) d_Mo_shape_16 rfl) ?_
  refine px (fun _ => pm_iload_n (pc := 17) d_Mo_shape_17 rfl) ?_
  refine px (fun _ => k_Mo_shape_18 (kc1 := 0) (ks1 := 0) (kc := 0) (ks := 0) (av := [.int (nI k)]) (st := []) H.1 (m_arity hl H hk) rfl rfl (Nat.le_of_ble_eq_true rfl)) ?_
  refine px (fun _ => pm_iconst (v := 1) (pc := 21) d_Mo_shape_21 rfl) ?_
  refine pxb (fun _ => pm_icmp_le (pc := 22) (tgt := 38) d_Mo_shape_22 (by decide)) (fun c_1 => absurd c_1 (by rw [har]; decide)) (fun c_1 => ?_)
  refine px (fun _ => pm_aload_n (pc := 25) d_Mo_shape_25 rfl) ?_
  refine px (fun _ => pm_getf fl_Mo_47 (pc := 26) d_Mo_shape_26 H.1 rfl) ?_
  refine px (fun _ => pm_iload_n (pc := 29) d_Mo_shape_29 rfl) ?_
  refine px (fun _ => pm_iconst (v := 3) (pc := 30) d_Mo_shape_30 rfl) ?_
  refine px (fun _ => pm_imulN (a := n) (b := 3) (pc := 31) d_Mo_shape_31) ?_
  refine px (fun _ => pm_iconst (v := 1) (pc := 32) d_Mo_shape_32 rfl) ?_
  refine px (fun _ => pm_iaddN (a := (n * 3)) (b := 1) (pc := 33) d_Mo_shape_33) ?_
  refine px (fun _ => pm_iald (j := n * 3 + 1) (pc := 34) d_Mo_shape_34 H.2.2.2.2.2.2.2.2.2.2.2.2.2.1 (rfl) (by omega) (by decide)) ?_
  rw [eb]
  refine px (fun _ => pm_goto (tgt := 39) (pc := 35) d_Mo_shape_35 (by decide)) ?_
  refine px (fun _ => pm_istore (lv' := [(4, .int (nI b)), (3, .int (nI a)), (2, .int (nI k)), (0, .ref (95)), (1, .int (nI n))]) (pc := 39) d_Mo_shape_39 (by decide) rfl) ?_
  refine px (fun _ => pm_aload_n (pc := 41) d_Mo_shape_41 rfl) ?_
  refine px (fun _ => pm_iload_n (pc := 42) d_Mo_shape_42 rfl) ?_
  refine px (fun _ => k_Mo_shape_43 (kc1 := 0) (ks1 := 0) (kc := 0) (ks := 0) (av := [.int (nI k)]) (st := []) H.1 (m_arity hl H hk) rfl rfl (Nat.le_of_ble_eq_true rfl)) ?_
  refine px (fun _ => pm_iconst (v := 2) (pc := 46) d_Mo_shape_46 rfl) ?_
  refine pxb (fun _ => pm_icmp_le (pc := 47) (tgt := 63) d_Mo_shape_47 (by decide)) (fun c_2 => absurd c_2 (by rw [har]; decide)) (fun c_2 => ?_)
  refine px (fun _ => pm_aload_n (pc := 50) d_Mo_shape_50 rfl) ?_
  refine px (fun _ => pm_getf fl_Mo_47 (pc := 51) d_Mo_shape_51 H.1 rfl) ?_
  refine px (fun _ => pm_iload_n (pc := 54) d_Mo_shape_54 rfl) ?_
  refine px (fun _ => pm_iconst (v := 3) (pc := 55) d_Mo_shape_55 rfl) ?_
  refine px (fun _ => pm_imulN (a := n) (b := 3) (pc := 56) d_Mo_shape_56) ?_
  refine px (fun _ => pm_iconst (v := 2) (pc := 57) d_Mo_shape_57 rfl) ?_
  refine px (fun _ => pm_iaddN (a := (n * 3)) (b := 2) (pc := 58) d_Mo_shape_58) ?_
  refine px (fun _ => pm_iald (j := n * 3 + 2) (pc := 59) d_Mo_shape_59 H.2.2.2.2.2.2.2.2.2.2.2.2.2.1 (rfl) (by omega) (by decide)) ?_
  rw [ec]
  refine px (fun _ => pm_goto (tgt := 64) (pc := 60) d_Mo_shape_60 (by decide)) ?_
  refine px (fun _ => pm_istore (lv' := [(5, .int (nI c)), (4, .int (nI b)), (3, .int (nI a)), (2, .int (nI k)), (0, .ref (95)), (1, .int (nI n))]) (pc := 64) d_Mo_shape_64 (by decide) rfl) ?_
  refine px (fun _ => pm_aload_n (pc := 66) d_Mo_shape_66 rfl) ?_
  refine px (fun _ => pm_getf fl_Mo_13 (pc := 67) d_Mo_shape_67 H.1 rfl) ?_
  refine px (fun _ => pm_iload_n (pc := 70) d_Mo_shape_70 rfl) ?_
  refine px (fun _ => pm_iald (j := a) (pc := 71) d_Mo_shape_71 H.2.2.1 (rfl) (ha) (by decide)) ?_
  rw [ta.1]
  refine px (fun _ => pm_aload_n (pc := 72) d_Mo_shape_72 rfl) ?_
  refine px (fun _ => pm_getf fl_Mo_13 (pc := 73) d_Mo_shape_73 H.1 rfl) ?_
  refine px (fun _ => pm_iload (pc := 76) d_Mo_shape_76 rfl) ?_
  refine px (fun _ => pm_iald (j := b) (pc := 78) d_Mo_shape_78 H.2.2.1 (rfl) (hb) (by decide)) ?_
  rw [tb.1]
  refine pxn (fun _ => pm_icmp_ne (pc := 79) (tgt := 86) d_Mo_shape_79 (by decide)) (fun c_3 => ?_) (fun c_3 => ?_)
  · have n_c_3 : ¬ ((gT S a 0) = (gT S b 0)) := fun zq => c_3 ((nI_eq (a := (gT S a 0)) (b := (gT S b 0)) (by omega) (by omega)).mpr zq)
    refine px (fun _ => pm_iconst (v := 0) (pc := 86) d_Mo_shape_86 rfl) ?_
    refine px (fun _ => pm_istore (lv' := [(6, .int (0)), (5, .int (nI c)), (4, .int (nI b)), (3, .int (nI a)), (2, .int (nI k)), (0, .ref (95)), (1, .int (nI n))]) (pc := 87) d_Mo_shape_87 (by decide) rfl) ?_
    refine px (fun _ => pm_aload_n (pc := 89) d_Mo_shape_89 rfl) ?_
    refine px (fun _ => pm_getf fl_Mo_13 (pc := 90) d_Mo_shape_90 H.1 rfl) ?_
    refine px (fun _ => pm_iload_n (pc := 93) d_Mo_shape_93 rfl) ?_
    refine px (fun _ => pm_iald (j := a) (pc := 94) d_Mo_shape_94 H.2.2.1 (rfl) (ha) (by decide)) ?_
    rw [ta.1]
    refine pxn (fun _ => pm_if_ne (pc := 95) (tgt := 112) d_Mo_shape_95 (by decide)) (fun c_4 => ?_) (fun c_4 => ?_)
    · have n_c_4 : ¬ ((gT S a 0) = 0) := fun zq => c_4 ((nI_eq (a := (gT S a 0)) (b := 0) (by omega) (by omega)).mpr zq)
      refine px (fun _ => pm_iconst (v := 0) (pc := 112) d_Mo_shape_112 rfl) ?_
      refine px (fun _ => pm_istore (lv' := [(7, .int (0)), (6, .int (0)), (5, .int (nI c)), (4, .int (nI b)), (3, .int (nI a)), (2, .int (nI k)), (0, .ref (95)), (1, .int (nI n))]) (pc := 113) d_Mo_shape_113 (by decide) rfl) ?_
      refine px (fun _ => pm_aload_n (pc := 115) d_Mo_shape_115 rfl) ?_
      refine px (fun _ => pm_getf fl_Mo_16 (pc := 116) d_Mo_shape_116 H.1 rfl) ?_
      refine px (fun _ => pm_iload_n (pc := 119) d_Mo_shape_119 rfl) ?_
      refine px (fun _ => pm_iald (j := a) (pc := 120) d_Mo_shape_120 H.2.2.2.1 (rfl) (ha) (by decide)) ?_
      rw [ta.2.1]
      refine px (fun _ => pm_istore (lv' := [(8, .int (nI (gT S a 1))), (7, .int (0)), (6, .int (0)), (5, .int (nI c)), (4, .int (nI b)), (3, .int (nI a)), (2, .int (nI k)), (0, .ref (95)), (1, .int (nI n))]) (pc := 121) d_Mo_shape_121 (by decide) rfl) ?_
      refine px (fun _ => pm_aload_n (pc := 123) d_Mo_shape_123 rfl) ?_
      refine px (fun _ => pm_getf fl_Mo_19 (pc := 124) d_Mo_shape_124 H.1 rfl) ?_
      refine px (fun _ => pm_iload_n (pc := 127) d_Mo_shape_127 rfl) ?_
      refine px (fun _ => pm_iald (j := a) (pc := 128) d_Mo_shape_128 H.2.2.2.2.1 (rfl) (ha) (by decide)) ?_
      rw [ta.2.2]
      refine px (fun _ => pm_istore (lv' := [(9, .int (nI (gT S a 2))), (8, .int (nI (gT S a 1))), (7, .int (0)), (6, .int (0)), (5, .int (nI c)), (4, .int (nI b)), (3, .int (nI a)), (2, .int (nI k)), (0, .ref (95)), (1, .int (nI n))]) (pc := 129) d_Mo_shape_129 (by decide) rfl) ?_
      refine pxd [0, 1, 2, 3, 4, 5, 6, 7, 8, 9] rfl ?_
      have K9 := K
      rw [show (if gT S a 0 = 0 ∧ gT S b 0 = 0 then (1 : Int32) else 0) = 0 from if_neg (by omega), show (if gT S a 0 = gT S b 0 then (1 : Int32) else 0) = 0 from if_neg (by omega)] at K9
      exact K9
    · have n_c_4 : (gT S a 0) = 0 := (nI_eq (a := (gT S a 0)) (b := 0) (by omega) (by omega)).mp c_4
      refine px (fun _ => pm_aload_n (pc := 98) d_Mo_shape_98 rfl) ?_
      refine px (fun _ => pm_getf fl_Mo_13 (pc := 99) d_Mo_shape_99 H.1 rfl) ?_
      refine px (fun _ => pm_iload (pc := 102) d_Mo_shape_102 rfl) ?_
      refine px (fun _ => pm_iald (j := b) (pc := 104) d_Mo_shape_104 H.2.2.1 (rfl) (hb) (by decide)) ?_
      rw [tb.1]
      refine pxn (fun _ => pm_if_ne (pc := 105) (tgt := 112) d_Mo_shape_105 (by decide)) (fun c_5 => ?_) (fun c_5 => ?_)
      · have n_c_5 : ¬ ((gT S b 0) = 0) := fun zq => c_5 ((nI_eq (a := (gT S b 0)) (b := 0) (by omega) (by omega)).mpr zq)
        refine px (fun _ => pm_iconst (v := 0) (pc := 112) d_Mo_shape_112 rfl) ?_
        refine px (fun _ => pm_istore (lv' := [(7, .int (0)), (6, .int (0)), (5, .int (nI c)), (4, .int (nI b)), (3, .int (nI a)), (2, .int (nI k)), (0, .ref (95)), (1, .int (nI n))]) (pc := 113) d_Mo_shape_113 (by decide) rfl) ?_
        refine px (fun _ => pm_aload_n (pc := 115) d_Mo_shape_115 rfl) ?_
        refine px (fun _ => pm_getf fl_Mo_16 (pc := 116) d_Mo_shape_116 H.1 rfl) ?_
        refine px (fun _ => pm_iload_n (pc := 119) d_Mo_shape_119 rfl) ?_
        refine px (fun _ => pm_iald (j := a) (pc := 120) d_Mo_shape_120 H.2.2.2.1 (rfl) (ha) (by decide)) ?_
        rw [ta.2.1]
        refine px (fun _ => pm_istore (lv' := [(8, .int (nI (gT S a 1))), (7, .int (0)), (6, .int (0)), (5, .int (nI c)), (4, .int (nI b)), (3, .int (nI a)), (2, .int (nI k)), (0, .ref (95)), (1, .int (nI n))]) (pc := 121) d_Mo_shape_121 (by decide) rfl) ?_
        refine px (fun _ => pm_aload_n (pc := 123) d_Mo_shape_123 rfl) ?_
        refine px (fun _ => pm_getf fl_Mo_19 (pc := 124) d_Mo_shape_124 H.1 rfl) ?_
        refine px (fun _ => pm_iload_n (pc := 127) d_Mo_shape_127 rfl) ?_
        refine px (fun _ => pm_iald (j := a) (pc := 128) d_Mo_shape_128 H.2.2.2.2.1 (rfl) (ha) (by decide)) ?_
        rw [ta.2.2]
        refine px (fun _ => pm_istore (lv' := [(9, .int (nI (gT S a 2))), (8, .int (nI (gT S a 1))), (7, .int (0)), (6, .int (0)), (5, .int (nI c)), (4, .int (nI b)), (3, .int (nI a)), (2, .int (nI k)), (0, .ref (95)), (1, .int (nI n))]) (pc := 129) d_Mo_shape_129 (by decide) rfl) ?_
        refine pxd [0, 1, 2, 3, 4, 5, 6, 7, 8, 9] rfl ?_
        have K9 := K
        rw [show (if gT S a 0 = 0 ∧ gT S b 0 = 0 then (1 : Int32) else 0) = 0 from if_neg (by omega), show (if gT S a 0 = gT S b 0 then (1 : Int32) else 0) = 0 from if_neg (by omega)] at K9
        exact K9
      · have n_c_5 : (gT S b 0) = 0 := (nI_eq (a := (gT S b 0)) (b := 0) (by omega) (by omega)).mp c_5
        refine px (fun _ => pm_iconst (v := 1) (pc := 108) d_Mo_shape_108 rfl) ?_
        refine px (fun _ => pm_goto (tgt := 113) (pc := 109) d_Mo_shape_109 (by decide)) ?_
        refine px (fun _ => pm_istore (lv' := [(7, .int (1)), (6, .int (0)), (5, .int (nI c)), (4, .int (nI b)), (3, .int (nI a)), (2, .int (nI k)), (0, .ref (95)), (1, .int (nI n))]) (pc := 113) d_Mo_shape_113 (by decide) rfl) ?_
        refine px (fun _ => pm_aload_n (pc := 115) d_Mo_shape_115 rfl) ?_
        refine px (fun _ => pm_getf fl_Mo_16 (pc := 116) d_Mo_shape_116 H.1 rfl) ?_
        refine px (fun _ => pm_iload_n (pc := 119) d_Mo_shape_119 rfl) ?_
        refine px (fun _ => pm_iald (j := a) (pc := 120) d_Mo_shape_120 H.2.2.2.1 (rfl) (ha) (by decide)) ?_
        rw [ta.2.1]
        refine px (fun _ => pm_istore (lv' := [(8, .int (nI (gT S a 1))), (7, .int (1)), (6, .int (0)), (5, .int (nI c)), (4, .int (nI b)), (3, .int (nI a)), (2, .int (nI k)), (0, .ref (95)), (1, .int (nI n))]) (pc := 121) d_Mo_shape_121 (by decide) rfl) ?_
        refine px (fun _ => pm_aload_n (pc := 123) d_Mo_shape_123 rfl) ?_
        refine px (fun _ => pm_getf fl_Mo_19 (pc := 124) d_Mo_shape_124 H.1 rfl) ?_
        refine px (fun _ => pm_iload_n (pc := 127) d_Mo_shape_127 rfl) ?_
        refine px (fun _ => pm_iald (j := a) (pc := 128) d_Mo_shape_128 H.2.2.2.2.1 (rfl) (ha) (by decide)) ?_
        rw [ta.2.2]
        refine px (fun _ => pm_istore (lv' := [(9, .int (nI (gT S a 2))), (8, .int (nI (gT S a 1))), (7, .int (1)), (6, .int (0)), (5, .int (nI c)), (4, .int (nI b)), (3, .int (nI a)), (2, .int (nI k)), (0, .ref (95)), (1, .int (nI n))]) (pc := 129) d_Mo_shape_129 (by decide) rfl) ?_
        refine pxd [0, 1, 2, 3, 4, 5, 6, 7, 8, 9] rfl ?_
        have K9 := K
        rw [show (if gT S a 0 = 0 ∧ gT S b 0 = 0 then (1 : Int32) else 0) = 1 from if_pos (by omega), show (if gT S a 0 = gT S b 0 then (1 : Int32) else 0) = 0 from if_neg (by omega)] at K9
        exact K9
  · have n_c_3 : (gT S a 0) = (gT S b 0) := (nI_eq (a := (gT S a 0)) (b := (gT S b 0)) (by omega) (by omega)).mp c_3
    refine px (fun _ => pm_iconst (v := 1) (pc := 82) d_Mo_shape_82 rfl) ?_
    refine px (fun _ => pm_goto (tgt := 87) (pc := 83) d_Mo_shape_83 (by decide)) ?_
    refine px (fun _ => pm_istore (lv' := [(6, .int (1)), (5, .int (nI c)), (4, .int (nI b)), (3, .int (nI a)), (2, .int (nI k)), (0, .ref (95)), (1, .int (nI n))]) (pc := 87) d_Mo_shape_87 (by decide) rfl) ?_
    refine px (fun _ => pm_aload_n (pc := 89) d_Mo_shape_89 rfl) ?_
    refine px (fun _ => pm_getf fl_Mo_13 (pc := 90) d_Mo_shape_90 H.1 rfl) ?_
    refine px (fun _ => pm_iload_n (pc := 93) d_Mo_shape_93 rfl) ?_
    refine px (fun _ => pm_iald (j := a) (pc := 94) d_Mo_shape_94 H.2.2.1 (rfl) (ha) (by decide)) ?_
    rw [ta.1]
    refine pxn (fun _ => pm_if_ne (pc := 95) (tgt := 112) d_Mo_shape_95 (by decide)) (fun c_6 => ?_) (fun c_6 => ?_)
    · have n_c_6 : ¬ ((gT S a 0) = 0) := fun zq => c_6 ((nI_eq (a := (gT S a 0)) (b := 0) (by omega) (by omega)).mpr zq)
      refine px (fun _ => pm_iconst (v := 0) (pc := 112) d_Mo_shape_112 rfl) ?_
      refine px (fun _ => pm_istore (lv' := [(7, .int (0)), (6, .int (1)), (5, .int (nI c)), (4, .int (nI b)), (3, .int (nI a)), (2, .int (nI k)), (0, .ref (95)), (1, .int (nI n))]) (pc := 113) d_Mo_shape_113 (by decide) rfl) ?_
      refine px (fun _ => pm_aload_n (pc := 115) d_Mo_shape_115 rfl) ?_
      refine px (fun _ => pm_getf fl_Mo_16 (pc := 116) d_Mo_shape_116 H.1 rfl) ?_
      refine px (fun _ => pm_iload_n (pc := 119) d_Mo_shape_119 rfl) ?_
      refine px (fun _ => pm_iald (j := a) (pc := 120) d_Mo_shape_120 H.2.2.2.1 (rfl) (ha) (by decide)) ?_
      rw [ta.2.1]
      refine px (fun _ => pm_istore (lv' := [(8, .int (nI (gT S a 1))), (7, .int (0)), (6, .int (1)), (5, .int (nI c)), (4, .int (nI b)), (3, .int (nI a)), (2, .int (nI k)), (0, .ref (95)), (1, .int (nI n))]) (pc := 121) d_Mo_shape_121 (by decide) rfl) ?_
      refine px (fun _ => pm_aload_n (pc := 123) d_Mo_shape_123 rfl) ?_
      refine px (fun _ => pm_getf fl_Mo_19 (pc := 124) d_Mo_shape_124 H.1 rfl) ?_
      refine px (fun _ => pm_iload_n (pc := 127) d_Mo_shape_127 rfl) ?_
      refine px (fun _ => pm_iald (j := a) (pc := 128) d_Mo_shape_128 H.2.2.2.2.1 (rfl) (ha) (by decide)) ?_
      rw [ta.2.2]
      refine px (fun _ => pm_istore (lv' := [(9, .int (nI (gT S a 2))), (8, .int (nI (gT S a 1))), (7, .int (0)), (6, .int (1)), (5, .int (nI c)), (4, .int (nI b)), (3, .int (nI a)), (2, .int (nI k)), (0, .ref (95)), (1, .int (nI n))]) (pc := 129) d_Mo_shape_129 (by decide) rfl) ?_
      refine pxd [0, 1, 2, 3, 4, 5, 6, 7, 8, 9] rfl ?_
      have K9 := K
      rw [show (if gT S a 0 = 0 ∧ gT S b 0 = 0 then (1 : Int32) else 0) = 0 from if_neg (by omega), show (if gT S a 0 = gT S b 0 then (1 : Int32) else 0) = 1 from if_pos (by omega)] at K9
      exact K9
    · have n_c_6 : (gT S a 0) = 0 := (nI_eq (a := (gT S a 0)) (b := 0) (by omega) (by omega)).mp c_6
      refine px (fun _ => pm_aload_n (pc := 98) d_Mo_shape_98 rfl) ?_
      refine px (fun _ => pm_getf fl_Mo_13 (pc := 99) d_Mo_shape_99 H.1 rfl) ?_
      refine px (fun _ => pm_iload (pc := 102) d_Mo_shape_102 rfl) ?_
      refine px (fun _ => pm_iald (j := b) (pc := 104) d_Mo_shape_104 H.2.2.1 (rfl) (hb) (by decide)) ?_
      rw [tb.1]
      refine pxn (fun _ => pm_if_ne (pc := 105) (tgt := 112) d_Mo_shape_105 (by decide)) (fun c_7 => ?_) (fun c_7 => ?_)
      · have n_c_7 : ¬ ((gT S b 0) = 0) := fun zq => c_7 ((nI_eq (a := (gT S b 0)) (b := 0) (by omega) (by omega)).mpr zq)
        refine px (fun _ => pm_iconst (v := 0) (pc := 112) d_Mo_shape_112 rfl) ?_
        refine px (fun _ => pm_istore (lv' := [(7, .int (0)), (6, .int (1)), (5, .int (nI c)), (4, .int (nI b)), (3, .int (nI a)), (2, .int (nI k)), (0, .ref (95)), (1, .int (nI n))]) (pc := 113) d_Mo_shape_113 (by decide) rfl) ?_
        refine px (fun _ => pm_aload_n (pc := 115) d_Mo_shape_115 rfl) ?_
        refine px (fun _ => pm_getf fl_Mo_16 (pc := 116) d_Mo_shape_116 H.1 rfl) ?_
        refine px (fun _ => pm_iload_n (pc := 119) d_Mo_shape_119 rfl) ?_
        refine px (fun _ => pm_iald (j := a) (pc := 120) d_Mo_shape_120 H.2.2.2.1 (rfl) (ha) (by decide)) ?_
        rw [ta.2.1]
        refine px (fun _ => pm_istore (lv' := [(8, .int (nI (gT S a 1))), (7, .int (0)), (6, .int (1)), (5, .int (nI c)), (4, .int (nI b)), (3, .int (nI a)), (2, .int (nI k)), (0, .ref (95)), (1, .int (nI n))]) (pc := 121) d_Mo_shape_121 (by decide) rfl) ?_
        refine px (fun _ => pm_aload_n (pc := 123) d_Mo_shape_123 rfl) ?_
        refine px (fun _ => pm_getf fl_Mo_19 (pc := 124) d_Mo_shape_124 H.1 rfl) ?_
        refine px (fun _ => pm_iload_n (pc := 127) d_Mo_shape_127 rfl) ?_
        refine px (fun _ => pm_iald (j := a) (pc := 128) d_Mo_shape_128 H.2.2.2.2.1 (rfl) (ha) (by decide)) ?_
        rw [ta.2.2]
        refine px (fun _ => pm_istore (lv' := [(9, .int (nI (gT S a 2))), (8, .int (nI (gT S a 1))), (7, .int (0)), (6, .int (1)), (5, .int (nI c)), (4, .int (nI b)), (3, .int (nI a)), (2, .int (nI k)), (0, .ref (95)), (1, .int (nI n))]) (pc := 129) d_Mo_shape_129 (by decide) rfl) ?_
        refine pxd [0, 1, 2, 3, 4, 5, 6, 7, 8, 9] rfl ?_
        have K9 := K
        rw [show (if gT S a 0 = 0 ∧ gT S b 0 = 0 then (1 : Int32) else 0) = 0 from if_neg (by omega), show (if gT S a 0 = gT S b 0 then (1 : Int32) else 0) = 1 from if_pos (by omega)] at K9
        exact K9
      · have n_c_7 : (gT S b 0) = 0 := (nI_eq (a := (gT S b 0)) (b := 0) (by omega) (by omega)).mp c_7
        refine px (fun _ => pm_iconst (v := 1) (pc := 108) d_Mo_shape_108 rfl) ?_
        refine px (fun _ => pm_goto (tgt := 113) (pc := 109) d_Mo_shape_109 (by decide)) ?_
        refine px (fun _ => pm_istore (lv' := [(7, .int (1)), (6, .int (1)), (5, .int (nI c)), (4, .int (nI b)), (3, .int (nI a)), (2, .int (nI k)), (0, .ref (95)), (1, .int (nI n))]) (pc := 113) d_Mo_shape_113 (by decide) rfl) ?_
        refine px (fun _ => pm_aload_n (pc := 115) d_Mo_shape_115 rfl) ?_
        refine px (fun _ => pm_getf fl_Mo_16 (pc := 116) d_Mo_shape_116 H.1 rfl) ?_
        refine px (fun _ => pm_iload_n (pc := 119) d_Mo_shape_119 rfl) ?_
        refine px (fun _ => pm_iald (j := a) (pc := 120) d_Mo_shape_120 H.2.2.2.1 (rfl) (ha) (by decide)) ?_
        rw [ta.2.1]
        refine px (fun _ => pm_istore (lv' := [(8, .int (nI (gT S a 1))), (7, .int (1)), (6, .int (1)), (5, .int (nI c)), (4, .int (nI b)), (3, .int (nI a)), (2, .int (nI k)), (0, .ref (95)), (1, .int (nI n))]) (pc := 121) d_Mo_shape_121 (by decide) rfl) ?_
        refine px (fun _ => pm_aload_n (pc := 123) d_Mo_shape_123 rfl) ?_
        refine px (fun _ => pm_getf fl_Mo_19 (pc := 124) d_Mo_shape_124 H.1 rfl) ?_
        refine px (fun _ => pm_iload_n (pc := 127) d_Mo_shape_127 rfl) ?_
        refine px (fun _ => pm_iald (j := a) (pc := 128) d_Mo_shape_128 H.2.2.2.2.1 (rfl) (ha) (by decide)) ?_
        rw [ta.2.2]
        refine px (fun _ => pm_istore (lv' := [(9, .int (nI (gT S a 2))), (8, .int (nI (gT S a 1))), (7, .int (1)), (6, .int (1)), (5, .int (nI c)), (4, .int (nI b)), (3, .int (nI a)), (2, .int (nI k)), (0, .ref (95)), (1, .int (nI n))]) (pc := 129) d_Mo_shape_129 (by decide) rfl) ?_
        refine pxd [0, 1, 2, 3, 4, 5, 6, 7, 8, 9] rfl ?_
        have K9 := K
        rw [show (if gT S a 0 = 0 ∧ gT S b 0 = 0 then (1 : Int32) else 0) = 1 from if_pos (by omega), show (if gT S a 0 = gT S b 0 then (1 : Int32) else 0) = 1 from if_pos (by omega)] at K9
        exact K9
set_option maxHeartbeats 1000000 in
set_option maxRecDepth 20000 in
theorem sh_0 {l : Launch} {G : pm_G} {fi : Bool} {h : pm_H} {S : gS} {T : mS} {n a b o9 : Nat}  (hl : l.stackTraces = false) (H : mH T h) (hn : n < 14) (hop : mA T 6 n = 0) (ea : mQ T 12 (n * 3) = nI a) (ha : a < 20) (ta : mTb S T a) (ra : g_rng S a) (eb : mQ T 12 (n * 3 + 1) = nI b) (hb : b < 20) (tb : mTb S T b) (rb : g_rng S b) (ho : mA T 7 n = o9) (ho9 : o9 < 20)  : pm_Cn l G fi fi 0 0 M_Mo_shape [.ref 95, .int (nI n)] h (m_PX T o9 h (if gT S a 0 = gT S b 0 then if (gT S a 1 = gT S b 1 ∨ gT S a 1 = 1 ∨ gT S b 1 = 1) ∧ (gT S a 2 = gT S b 2 ∨ gT S a 2 = 1 ∨ gT S b 2 = 1) then g_sh (gT S a 0) (max (gT S a 1) (gT S b 1)) (max (gT S a 2) (gT S b 2)) else none else none)) := by
  refine pm_Cn.of hl (by decide) (Nat.le_of_ble_eq_true rfl) ?_
  obtain ⟨r1, r2, r3, r4, r5⟩ := id ra
  obtain ⟨s1, s2, s3, s4, s5⟩ := id rb
  refine sh_pre2 hl H hn hop ea ha ta ra eb hb tb rb (by decide) (by decide) ?_
  refine px (fun _ => pm_iload_n (pc := 131) d_Mo_shape_131 rfl) ?_
  refine px (fun _ => pm_iconst (v := 4) (pc := 132) d_Mo_shape_132 rfl) ?_
  refine pxb (fun _ => pm_icmp_lt (pc := 133) (tgt := 142) d_Mo_shape_133 (by decide)) (fun c_1 => ?_) (fun c_1 => absurd (by decide) c_1)
  refine px (fun _ => pm_iload (pc := 142) d_Mo_shape_142 rfl) ?_
  refine pxb (fun _ => pm_if_eq (pc := 144) (tgt := 211) d_Mo_shape_144 (by decide)) (fun c_2 => ?_) (fun c_2 => ?_)
  · have n_c_2 : ¬ (gT S a 0 = gT S b 0) := g_if0.mp c_2
    refine px (fun _ => pm_iconst (v := 0) (pc := 211) d_Mo_shape_211 rfl) ?_
    exact pxr (pm_iret (pc := 212) d_Mo_shape_212 rfl rfl) (m_PX_0 H (mFr.rf _) (by first | (exact if_neg (by first | omega | assumption)) | (rw [if_pos (by first | omega | assumption)]; exact if_neg (by first | omega | assumption)) | (rw [if_pos (by first | omega | assumption), if_pos (by first | omega | assumption)]; exact g_sh_n (by first | omega | assumption))))
  · have n_c_2 : gT S a 0 = gT S b 0 := Decidable.byContradiction fun q => c_2 (g_if0.mpr q)
    refine px (fun _ => pm_aload_n (pc := 147) d_Mo_shape_147 rfl) ?_
    refine px (fun _ => pm_iload_n (pc := 148) d_Mo_shape_148 rfl) ?_
    refine px (fun _ => pm_iload (pc := 149) d_Mo_shape_149 rfl) ?_
    refine px (fun _ => k_Mo_shape_151 (kc1 := 0) (ks1 := 0) (kc := 0) (ks := 0) (av := [.int (nI a), .int (nI b)]) (st := []) H.1 (m_fitting hl H ha hb ta tb ra rb) rfl rfl (Nat.le_of_ble_eq_true rfl)) ?_
    refine pxb (fun _ => pm_if_eq (pc := 154) (tgt := 211) d_Mo_shape_154 (by decide)) (fun c_3 => ?_) (fun c_3 => ?_)
    · have n_c_3 : ¬ ((gT S a 1 = gT S b 1 ∨ gT S a 1 = 1 ∨ gT S b 1 = 1) ∧ (gT S a 2 = gT S b 2 ∨ gT S a 2 = 1 ∨ gT S b 2 = 1)) := g_if0.mp c_3
      refine px (fun _ => pm_iconst (v := 0) (pc := 211) d_Mo_shape_211 rfl) ?_
      exact pxr (pm_iret (pc := 212) d_Mo_shape_212 rfl rfl) (m_PX_0 H (mFr.rf _) (by first | (exact if_neg (by first | omega | assumption)) | (rw [if_pos (by first | omega | assumption)]; exact if_neg (by first | omega | assumption)) | (rw [if_pos (by first | omega | assumption), if_pos (by first | omega | assumption)]; exact g_sh_n (by first | omega | assumption))))
    · have n_c_3 : (gT S a 1 = gT S b 1 ∨ gT S a 1 = 1 ∨ gT S b 1 = 1) ∧ (gT S a 2 = gT S b 2 ∨ gT S a 2 = 1 ∨ gT S b 2 = 1) := Decidable.byContradiction fun q => c_3 (g_if0.mpr q)
      refine px (fun _ => pm_aload_n (pc := 157) d_Mo_shape_157 rfl) ?_
      refine px (fun _ => pm_iload_n (pc := 158) d_Mo_shape_158 rfl) ?_
      refine px (fun _ => pm_iload_n (pc := 159) d_Mo_shape_159 rfl) ?_
      refine px (fun _ => pm_bipush (v := 8) (pc := 160) d_Mo_shape_160 rfl) ?_
      refine pxn (fun _ => pm_icmp_ne (pc := 162) (tgt := 169) d_Mo_shape_162 (by decide)) (fun c_4 => ?_) (fun c_4 => absurd c_4 (by decide))
      refine px (fun _ => pm_aload_n (pc := 169) d_Mo_shape_169 rfl) ?_
      refine px (fun _ => pm_getf fl_Mo_13 (pc := 170) d_Mo_shape_170 H.1 rfl) ?_
      refine px (fun _ => pm_iload_n (pc := 173) d_Mo_shape_173 rfl) ?_
      refine px (fun _ => pm_iald (j := a) (pc := 174) d_Mo_shape_174 H.2.2.1 (rfl) (ha) (by decide)) ?_
      rw [ta.1]
      refine px (fun _ => pm_aload_n (pc := 175) d_Mo_shape_175 rfl) ?_
      refine px (fun _ => pm_iload (pc := 176) d_Mo_shape_176 rfl) ?_
      refine px (fun _ => pm_aload_n (pc := 178) d_Mo_shape_178 rfl) ?_
      refine px (fun _ => pm_getf fl_Mo_16 (pc := 179) d_Mo_shape_179 H.1 rfl) ?_
      refine px (fun _ => pm_iload (pc := 182) d_Mo_shape_182 rfl) ?_
      refine px (fun _ => pm_iald (j := b) (pc := 184) d_Mo_shape_184 H.2.2.2.1 (rfl) (hb) (by decide)) ?_
      rw [tb.2.1]
      refine px (fun _ => k_Mo_shape_185 (kc1 := 0) (ks1 := 0) (kc := 0) (ks := 0) (av := [.int (nI (gT S a 1)), .int (nI (gT S b 1))]) (st := [.int (nI (gT S a 0)), .int (nI n), .ref (95)]) H.1 (m_most hl H (by omega) (by omega)) rfl rfl (Nat.le_of_ble_eq_true rfl)) ?_
      refine px (fun _ => pm_aload_n (pc := 188) d_Mo_shape_188 rfl) ?_
      refine px (fun _ => pm_iload (pc := 189) d_Mo_shape_189 rfl) ?_
      refine px (fun _ => pm_aload_n (pc := 191) d_Mo_shape_191 rfl) ?_
      refine px (fun _ => pm_getf fl_Mo_19 (pc := 192) d_Mo_shape_192 H.1 rfl) ?_
      refine px (fun _ => pm_iload (pc := 195) d_Mo_shape_195 rfl) ?_
      refine px (fun _ => pm_iald (j := b) (pc := 197) d_Mo_shape_197 H.2.2.2.2.1 (rfl) (hb) (by decide)) ?_
      rw [tb.2.2]
      refine px (fun _ => k_Mo_shape_198 (kc1 := 0) (ks1 := 0) (kc := 0) (ks := 0) (av := [.int (nI (gT S a 2)), .int (nI (gT S b 2))]) (st := [.int (nI (max (gT S a 1) (gT S b 1))), .int (nI (gT S a 0)), .int (nI n), .ref (95)]) H.1 (m_most hl H (by omega) (by omega)) rfl rfl (Nat.le_of_ble_eq_true rfl)) ?_
      obtain ⟨⟨o5, h5⟩, ⟨e5, H5, F5⟩, en5⟩ := m_give (l := l) (G := G) (fi := fi) (T := T) (t := (gT S a 0)) (r := (max (gT S a 1) (gT S b 1))) (c := (max (gT S a 2) (gT S b 2))) hl H hn ho ho9 (by omega) (by omega)
      dsimp only at e5 H5 F5
      subst e5
      refine px (fun _ => k_Mo_shape_201 (kc1 := 0) (ks1 := 0) (kc := 0) (ks := 0) (av := [.int (nI n), .int (nI (gT S a 0)), .int (nI (max (gT S a 1) (gT S b 1))), .int (nI (max (gT S a 2) (gT S b 2)))]) (st := []) H.1 (en5) rfl rfl (Nat.le_of_ble_eq_true rfl)) ?_
      refine pxb (fun _ => pm_if_eq (pc := 204) (tgt := 211) d_Mo_shape_204 (by decide)) (fun c_6 => ?_) (fun c_6 => ?_)
      · have n_c_6 : ¬ ((1 ≤ (max (gT S a 1) (gT S b 1)) ∧ (max (gT S a 1) (gT S b 1)) ≤ 4) ∧ 1 ≤ (max (gT S a 2) (gT S b 2)) ∧ (max (gT S a 2) (gT S b 2)) ≤ 4) := g_if0.mp c_6
        refine px (fun _ => pm_iconst (v := 0) (pc := 211) d_Mo_shape_211 rfl) ?_
        exact pxr (pm_iret (pc := 212) d_Mo_shape_212 rfl rfl) (m_PX_n H5 (F5) (by first | (exact if_neg (by first | omega | assumption)) | (rw [if_pos (by first | omega | assumption)]; exact if_neg (by first | omega | assumption)) | (rw [if_pos (by first | omega | assumption), if_pos (by first | omega | assumption)]; exact g_sh_n (by first | omega | assumption))))
      · have n_c_6 : (1 ≤ (max (gT S a 1) (gT S b 1)) ∧ (max (gT S a 1) (gT S b 1)) ≤ 4) ∧ 1 ≤ (max (gT S a 2) (gT S b 2)) ∧ (max (gT S a 2) (gT S b 2)) ≤ 4 := Decidable.byContradiction fun q => c_6 (g_if0.mpr q)
        refine px (fun _ => pm_iconst (v := 1) (pc := 207) d_Mo_shape_207 rfl) ?_
        refine px (fun _ => pm_goto (tgt := 212) (pc := 208) d_Mo_shape_208 (by decide)) ?_
        exact pxr (pm_iret (pc := 212) d_Mo_shape_212 rfl rfl) (m_PX_y H5 (F5) (by rw [if_pos (by first | omega | assumption), if_pos (by first | omega | assumption)]; exact g_sh_y (by first | omega | assumption)))
set_option maxHeartbeats 1000000 in
set_option maxRecDepth 20000 in
theorem sh_1 {l : Launch} {G : pm_G} {fi : Bool} {h : pm_H} {S : gS} {T : mS} {n a b o9 : Nat}  (hl : l.stackTraces = false) (H : mH T h) (hn : n < 14) (hop : mA T 6 n = 1) (ea : mQ T 12 (n * 3) = nI a) (ha : a < 20) (ta : mTb S T a) (ra : g_rng S a) (eb : mQ T 12 (n * 3 + 1) = nI b) (hb : b < 20) (tb : mTb S T b) (rb : g_rng S b) (ho : mA T 7 n = o9) (ho9 : o9 < 20)  : pm_Cn l G fi fi 0 0 M_Mo_shape [.ref 95, .int (nI n)] h (m_PX T o9 h (if gT S a 0 = gT S b 0 then if (gT S a 1 = gT S b 1 ∨ gT S a 1 = 1 ∨ gT S b 1 = 1) ∧ (gT S a 2 = gT S b 2 ∨ gT S a 2 = 1 ∨ gT S b 2 = 1) then g_sh (gT S a 0) (max (gT S a 1) (gT S b 1)) (max (gT S a 2) (gT S b 2)) else none else none)) := by
  refine pm_Cn.of hl (by decide) (Nat.le_of_ble_eq_true rfl) ?_
  obtain ⟨r1, r2, r3, r4, r5⟩ := id ra
  obtain ⟨s1, s2, s3, s4, s5⟩ := id rb
  refine sh_pre2 hl H hn hop ea ha ta ra eb hb tb rb (by decide) (by decide) ?_
  refine px (fun _ => pm_iload_n (pc := 131) d_Mo_shape_131 rfl) ?_
  refine px (fun _ => pm_iconst (v := 4) (pc := 132) d_Mo_shape_132 rfl) ?_
  refine pxb (fun _ => pm_icmp_lt (pc := 133) (tgt := 142) d_Mo_shape_133 (by decide)) (fun c_1 => ?_) (fun c_1 => absurd (by decide) c_1)
  refine px (fun _ => pm_iload (pc := 142) d_Mo_shape_142 rfl) ?_
  refine pxb (fun _ => pm_if_eq (pc := 144) (tgt := 211) d_Mo_shape_144 (by decide)) (fun c_2 => ?_) (fun c_2 => ?_)
  · have n_c_2 : ¬ (gT S a 0 = gT S b 0) := g_if0.mp c_2
    refine px (fun _ => pm_iconst (v := 0) (pc := 211) d_Mo_shape_211 rfl) ?_
    exact pxr (pm_iret (pc := 212) d_Mo_shape_212 rfl rfl) (m_PX_0 H (mFr.rf _) (by first | (exact if_neg (by first | omega | assumption)) | (rw [if_pos (by first | omega | assumption)]; exact if_neg (by first | omega | assumption)) | (rw [if_pos (by first | omega | assumption), if_pos (by first | omega | assumption)]; exact g_sh_n (by first | omega | assumption))))
  · have n_c_2 : gT S a 0 = gT S b 0 := Decidable.byContradiction fun q => c_2 (g_if0.mpr q)
    refine px (fun _ => pm_aload_n (pc := 147) d_Mo_shape_147 rfl) ?_
    refine px (fun _ => pm_iload_n (pc := 148) d_Mo_shape_148 rfl) ?_
    refine px (fun _ => pm_iload (pc := 149) d_Mo_shape_149 rfl) ?_
    refine px (fun _ => k_Mo_shape_151 (kc1 := 0) (ks1 := 0) (kc := 0) (ks := 0) (av := [.int (nI a), .int (nI b)]) (st := []) H.1 (m_fitting hl H ha hb ta tb ra rb) rfl rfl (Nat.le_of_ble_eq_true rfl)) ?_
    refine pxb (fun _ => pm_if_eq (pc := 154) (tgt := 211) d_Mo_shape_154 (by decide)) (fun c_3 => ?_) (fun c_3 => ?_)
    · have n_c_3 : ¬ ((gT S a 1 = gT S b 1 ∨ gT S a 1 = 1 ∨ gT S b 1 = 1) ∧ (gT S a 2 = gT S b 2 ∨ gT S a 2 = 1 ∨ gT S b 2 = 1)) := g_if0.mp c_3
      refine px (fun _ => pm_iconst (v := 0) (pc := 211) d_Mo_shape_211 rfl) ?_
      exact pxr (pm_iret (pc := 212) d_Mo_shape_212 rfl rfl) (m_PX_0 H (mFr.rf _) (by first | (exact if_neg (by first | omega | assumption)) | (rw [if_pos (by first | omega | assumption)]; exact if_neg (by first | omega | assumption)) | (rw [if_pos (by first | omega | assumption), if_pos (by first | omega | assumption)]; exact g_sh_n (by first | omega | assumption))))
    · have n_c_3 : (gT S a 1 = gT S b 1 ∨ gT S a 1 = 1 ∨ gT S b 1 = 1) ∧ (gT S a 2 = gT S b 2 ∨ gT S a 2 = 1 ∨ gT S b 2 = 1) := Decidable.byContradiction fun q => c_3 (g_if0.mpr q)
      refine px (fun _ => pm_aload_n (pc := 157) d_Mo_shape_157 rfl) ?_
      refine px (fun _ => pm_iload_n (pc := 158) d_Mo_shape_158 rfl) ?_
      refine px (fun _ => pm_iload_n (pc := 159) d_Mo_shape_159 rfl) ?_
      refine px (fun _ => pm_bipush (v := 8) (pc := 160) d_Mo_shape_160 rfl) ?_
      refine pxn (fun _ => pm_icmp_ne (pc := 162) (tgt := 169) d_Mo_shape_162 (by decide)) (fun c_4 => ?_) (fun c_4 => absurd c_4 (by decide))
      refine px (fun _ => pm_aload_n (pc := 169) d_Mo_shape_169 rfl) ?_
      refine px (fun _ => pm_getf fl_Mo_13 (pc := 170) d_Mo_shape_170 H.1 rfl) ?_
      refine px (fun _ => pm_iload_n (pc := 173) d_Mo_shape_173 rfl) ?_
      refine px (fun _ => pm_iald (j := a) (pc := 174) d_Mo_shape_174 H.2.2.1 (rfl) (ha) (by decide)) ?_
      rw [ta.1]
      refine px (fun _ => pm_aload_n (pc := 175) d_Mo_shape_175 rfl) ?_
      refine px (fun _ => pm_iload (pc := 176) d_Mo_shape_176 rfl) ?_
      refine px (fun _ => pm_aload_n (pc := 178) d_Mo_shape_178 rfl) ?_
      refine px (fun _ => pm_getf fl_Mo_16 (pc := 179) d_Mo_shape_179 H.1 rfl) ?_
      refine px (fun _ => pm_iload (pc := 182) d_Mo_shape_182 rfl) ?_
      refine px (fun _ => pm_iald (j := b) (pc := 184) d_Mo_shape_184 H.2.2.2.1 (rfl) (hb) (by decide)) ?_
      rw [tb.2.1]
      refine px (fun _ => k_Mo_shape_185 (kc1 := 0) (ks1 := 0) (kc := 0) (ks := 0) (av := [.int (nI (gT S a 1)), .int (nI (gT S b 1))]) (st := [.int (nI (gT S a 0)), .int (nI n), .ref (95)]) H.1 (m_most hl H (by omega) (by omega)) rfl rfl (Nat.le_of_ble_eq_true rfl)) ?_
      refine px (fun _ => pm_aload_n (pc := 188) d_Mo_shape_188 rfl) ?_
      refine px (fun _ => pm_iload (pc := 189) d_Mo_shape_189 rfl) ?_
      refine px (fun _ => pm_aload_n (pc := 191) d_Mo_shape_191 rfl) ?_
      refine px (fun _ => pm_getf fl_Mo_19 (pc := 192) d_Mo_shape_192 H.1 rfl) ?_
      refine px (fun _ => pm_iload (pc := 195) d_Mo_shape_195 rfl) ?_
      refine px (fun _ => pm_iald (j := b) (pc := 197) d_Mo_shape_197 H.2.2.2.2.1 (rfl) (hb) (by decide)) ?_
      rw [tb.2.2]
      refine px (fun _ => k_Mo_shape_198 (kc1 := 0) (ks1 := 0) (kc := 0) (ks := 0) (av := [.int (nI (gT S a 2)), .int (nI (gT S b 2))]) (st := [.int (nI (max (gT S a 1) (gT S b 1))), .int (nI (gT S a 0)), .int (nI n), .ref (95)]) H.1 (m_most hl H (by omega) (by omega)) rfl rfl (Nat.le_of_ble_eq_true rfl)) ?_
      obtain ⟨⟨o5, h5⟩, ⟨e5, H5, F5⟩, en5⟩ := m_give (l := l) (G := G) (fi := fi) (T := T) (t := (gT S a 0)) (r := (max (gT S a 1) (gT S b 1))) (c := (max (gT S a 2) (gT S b 2))) hl H hn ho ho9 (by omega) (by omega)
      dsimp only at e5 H5 F5
      subst e5
      refine px (fun _ => k_Mo_shape_201 (kc1 := 0) (ks1 := 0) (kc := 0) (ks := 0) (av := [.int (nI n), .int (nI (gT S a 0)), .int (nI (max (gT S a 1) (gT S b 1))), .int (nI (max (gT S a 2) (gT S b 2)))]) (st := []) H.1 (en5) rfl rfl (Nat.le_of_ble_eq_true rfl)) ?_
      refine pxb (fun _ => pm_if_eq (pc := 204) (tgt := 211) d_Mo_shape_204 (by decide)) (fun c_6 => ?_) (fun c_6 => ?_)
      · have n_c_6 : ¬ ((1 ≤ (max (gT S a 1) (gT S b 1)) ∧ (max (gT S a 1) (gT S b 1)) ≤ 4) ∧ 1 ≤ (max (gT S a 2) (gT S b 2)) ∧ (max (gT S a 2) (gT S b 2)) ≤ 4) := g_if0.mp c_6
        refine px (fun _ => pm_iconst (v := 0) (pc := 211) d_Mo_shape_211 rfl) ?_
        exact pxr (pm_iret (pc := 212) d_Mo_shape_212 rfl rfl) (m_PX_n H5 (F5) (by first | (exact if_neg (by first | omega | assumption)) | (rw [if_pos (by first | omega | assumption)]; exact if_neg (by first | omega | assumption)) | (rw [if_pos (by first | omega | assumption), if_pos (by first | omega | assumption)]; exact g_sh_n (by first | omega | assumption))))
      · have n_c_6 : (1 ≤ (max (gT S a 1) (gT S b 1)) ∧ (max (gT S a 1) (gT S b 1)) ≤ 4) ∧ 1 ≤ (max (gT S a 2) (gT S b 2)) ∧ (max (gT S a 2) (gT S b 2)) ≤ 4 := Decidable.byContradiction fun q => c_6 (g_if0.mpr q)
        refine px (fun _ => pm_iconst (v := 1) (pc := 207) d_Mo_shape_207 rfl) ?_
        refine px (fun _ => pm_goto (tgt := 212) (pc := 208) d_Mo_shape_208 (by decide)) ?_
        exact pxr (pm_iret (pc := 212) d_Mo_shape_212 rfl rfl) (m_PX_y H5 (F5) (by rw [if_pos (by first | omega | assumption), if_pos (by first | omega | assumption)]; exact g_sh_y (by first | omega | assumption)))
set_option maxHeartbeats 1000000 in
set_option maxRecDepth 20000 in
theorem sh_2 {l : Launch} {G : pm_G} {fi : Bool} {h : pm_H} {S : gS} {T : mS} {n a b o9 : Nat}  (hl : l.stackTraces = false) (H : mH T h) (hn : n < 14) (hop : mA T 6 n = 2) (ea : mQ T 12 (n * 3) = nI a) (ha : a < 20) (ta : mTb S T a) (ra : g_rng S a) (eb : mQ T 12 (n * 3 + 1) = nI b) (hb : b < 20) (tb : mTb S T b) (rb : g_rng S b) (ho : mA T 7 n = o9) (ho9 : o9 < 20)  : pm_Cn l G fi fi 0 0 M_Mo_shape [.ref 95, .int (nI n)] h (m_PX T o9 h (if gT S a 0 = gT S b 0 then if (gT S a 1 = gT S b 1 ∨ gT S a 1 = 1 ∨ gT S b 1 = 1) ∧ (gT S a 2 = gT S b 2 ∨ gT S a 2 = 1 ∨ gT S b 2 = 1) then g_sh (gT S a 0) (max (gT S a 1) (gT S b 1)) (max (gT S a 2) (gT S b 2)) else none else none)) := by
  refine pm_Cn.of hl (by decide) (Nat.le_of_ble_eq_true rfl) ?_
  obtain ⟨r1, r2, r3, r4, r5⟩ := id ra
  obtain ⟨s1, s2, s3, s4, s5⟩ := id rb
  refine sh_pre2 hl H hn hop ea ha ta ra eb hb tb rb (by decide) (by decide) ?_
  refine px (fun _ => pm_iload_n (pc := 131) d_Mo_shape_131 rfl) ?_
  refine px (fun _ => pm_iconst (v := 4) (pc := 132) d_Mo_shape_132 rfl) ?_
  refine pxb (fun _ => pm_icmp_lt (pc := 133) (tgt := 142) d_Mo_shape_133 (by decide)) (fun c_1 => ?_) (fun c_1 => absurd (by decide) c_1)
  refine px (fun _ => pm_iload (pc := 142) d_Mo_shape_142 rfl) ?_
  refine pxb (fun _ => pm_if_eq (pc := 144) (tgt := 211) d_Mo_shape_144 (by decide)) (fun c_2 => ?_) (fun c_2 => ?_)
  · have n_c_2 : ¬ (gT S a 0 = gT S b 0) := g_if0.mp c_2
    refine px (fun _ => pm_iconst (v := 0) (pc := 211) d_Mo_shape_211 rfl) ?_
    exact pxr (pm_iret (pc := 212) d_Mo_shape_212 rfl rfl) (m_PX_0 H (mFr.rf _) (by first | (exact if_neg (by first | omega | assumption)) | (rw [if_pos (by first | omega | assumption)]; exact if_neg (by first | omega | assumption)) | (rw [if_pos (by first | omega | assumption), if_pos (by first | omega | assumption)]; exact g_sh_n (by first | omega | assumption))))
  · have n_c_2 : gT S a 0 = gT S b 0 := Decidable.byContradiction fun q => c_2 (g_if0.mpr q)
    refine px (fun _ => pm_aload_n (pc := 147) d_Mo_shape_147 rfl) ?_
    refine px (fun _ => pm_iload_n (pc := 148) d_Mo_shape_148 rfl) ?_
    refine px (fun _ => pm_iload (pc := 149) d_Mo_shape_149 rfl) ?_
    refine px (fun _ => k_Mo_shape_151 (kc1 := 0) (ks1 := 0) (kc := 0) (ks := 0) (av := [.int (nI a), .int (nI b)]) (st := []) H.1 (m_fitting hl H ha hb ta tb ra rb) rfl rfl (Nat.le_of_ble_eq_true rfl)) ?_
    refine pxb (fun _ => pm_if_eq (pc := 154) (tgt := 211) d_Mo_shape_154 (by decide)) (fun c_3 => ?_) (fun c_3 => ?_)
    · have n_c_3 : ¬ ((gT S a 1 = gT S b 1 ∨ gT S a 1 = 1 ∨ gT S b 1 = 1) ∧ (gT S a 2 = gT S b 2 ∨ gT S a 2 = 1 ∨ gT S b 2 = 1)) := g_if0.mp c_3
      refine px (fun _ => pm_iconst (v := 0) (pc := 211) d_Mo_shape_211 rfl) ?_
      exact pxr (pm_iret (pc := 212) d_Mo_shape_212 rfl rfl) (m_PX_0 H (mFr.rf _) (by first | (exact if_neg (by first | omega | assumption)) | (rw [if_pos (by first | omega | assumption)]; exact if_neg (by first | omega | assumption)) | (rw [if_pos (by first | omega | assumption), if_pos (by first | omega | assumption)]; exact g_sh_n (by first | omega | assumption))))
    · have n_c_3 : (gT S a 1 = gT S b 1 ∨ gT S a 1 = 1 ∨ gT S b 1 = 1) ∧ (gT S a 2 = gT S b 2 ∨ gT S a 2 = 1 ∨ gT S b 2 = 1) := Decidable.byContradiction fun q => c_3 (g_if0.mpr q)
      refine px (fun _ => pm_aload_n (pc := 157) d_Mo_shape_157 rfl) ?_
      refine px (fun _ => pm_iload_n (pc := 158) d_Mo_shape_158 rfl) ?_
      refine px (fun _ => pm_iload_n (pc := 159) d_Mo_shape_159 rfl) ?_
      refine px (fun _ => pm_bipush (v := 8) (pc := 160) d_Mo_shape_160 rfl) ?_
      refine pxn (fun _ => pm_icmp_ne (pc := 162) (tgt := 169) d_Mo_shape_162 (by decide)) (fun c_4 => ?_) (fun c_4 => absurd c_4 (by decide))
      refine px (fun _ => pm_aload_n (pc := 169) d_Mo_shape_169 rfl) ?_
      refine px (fun _ => pm_getf fl_Mo_13 (pc := 170) d_Mo_shape_170 H.1 rfl) ?_
      refine px (fun _ => pm_iload_n (pc := 173) d_Mo_shape_173 rfl) ?_
      refine px (fun _ => pm_iald (j := a) (pc := 174) d_Mo_shape_174 H.2.2.1 (rfl) (ha) (by decide)) ?_
      rw [ta.1]
      refine px (fun _ => pm_aload_n (pc := 175) d_Mo_shape_175 rfl) ?_
      refine px (fun _ => pm_iload (pc := 176) d_Mo_shape_176 rfl) ?_
      refine px (fun _ => pm_aload_n (pc := 178) d_Mo_shape_178 rfl) ?_
      refine px (fun _ => pm_getf fl_Mo_16 (pc := 179) d_Mo_shape_179 H.1 rfl) ?_
      refine px (fun _ => pm_iload (pc := 182) d_Mo_shape_182 rfl) ?_
      refine px (fun _ => pm_iald (j := b) (pc := 184) d_Mo_shape_184 H.2.2.2.1 (rfl) (hb) (by decide)) ?_
      rw [tb.2.1]
      refine px (fun _ => k_Mo_shape_185 (kc1 := 0) (ks1 := 0) (kc := 0) (ks := 0) (av := [.int (nI (gT S a 1)), .int (nI (gT S b 1))]) (st := [.int (nI (gT S a 0)), .int (nI n), .ref (95)]) H.1 (m_most hl H (by omega) (by omega)) rfl rfl (Nat.le_of_ble_eq_true rfl)) ?_
      refine px (fun _ => pm_aload_n (pc := 188) d_Mo_shape_188 rfl) ?_
      refine px (fun _ => pm_iload (pc := 189) d_Mo_shape_189 rfl) ?_
      refine px (fun _ => pm_aload_n (pc := 191) d_Mo_shape_191 rfl) ?_
      refine px (fun _ => pm_getf fl_Mo_19 (pc := 192) d_Mo_shape_192 H.1 rfl) ?_
      refine px (fun _ => pm_iload (pc := 195) d_Mo_shape_195 rfl) ?_
      refine px (fun _ => pm_iald (j := b) (pc := 197) d_Mo_shape_197 H.2.2.2.2.1 (rfl) (hb) (by decide)) ?_
      rw [tb.2.2]
      refine px (fun _ => k_Mo_shape_198 (kc1 := 0) (ks1 := 0) (kc := 0) (ks := 0) (av := [.int (nI (gT S a 2)), .int (nI (gT S b 2))]) (st := [.int (nI (max (gT S a 1) (gT S b 1))), .int (nI (gT S a 0)), .int (nI n), .ref (95)]) H.1 (m_most hl H (by omega) (by omega)) rfl rfl (Nat.le_of_ble_eq_true rfl)) ?_
      obtain ⟨⟨o5, h5⟩, ⟨e5, H5, F5⟩, en5⟩ := m_give (l := l) (G := G) (fi := fi) (T := T) (t := (gT S a 0)) (r := (max (gT S a 1) (gT S b 1))) (c := (max (gT S a 2) (gT S b 2))) hl H hn ho ho9 (by omega) (by omega)
      dsimp only at e5 H5 F5
      subst e5
      refine px (fun _ => k_Mo_shape_201 (kc1 := 0) (ks1 := 0) (kc := 0) (ks := 0) (av := [.int (nI n), .int (nI (gT S a 0)), .int (nI (max (gT S a 1) (gT S b 1))), .int (nI (max (gT S a 2) (gT S b 2)))]) (st := []) H.1 (en5) rfl rfl (Nat.le_of_ble_eq_true rfl)) ?_
      refine pxb (fun _ => pm_if_eq (pc := 204) (tgt := 211) d_Mo_shape_204 (by decide)) (fun c_6 => ?_) (fun c_6 => ?_)
      · have n_c_6 : ¬ ((1 ≤ (max (gT S a 1) (gT S b 1)) ∧ (max (gT S a 1) (gT S b 1)) ≤ 4) ∧ 1 ≤ (max (gT S a 2) (gT S b 2)) ∧ (max (gT S a 2) (gT S b 2)) ≤ 4) := g_if0.mp c_6
        refine px (fun _ => pm_iconst (v := 0) (pc := 211) d_Mo_shape_211 rfl) ?_
        exact pxr (pm_iret (pc := 212) d_Mo_shape_212 rfl rfl) (m_PX_n H5 (F5) (by first | (exact if_neg (by first | omega | assumption)) | (rw [if_pos (by first | omega | assumption)]; exact if_neg (by first | omega | assumption)) | (rw [if_pos (by first | omega | assumption), if_pos (by first | omega | assumption)]; exact g_sh_n (by first | omega | assumption))))
      · have n_c_6 : (1 ≤ (max (gT S a 1) (gT S b 1)) ∧ (max (gT S a 1) (gT S b 1)) ≤ 4) ∧ 1 ≤ (max (gT S a 2) (gT S b 2)) ∧ (max (gT S a 2) (gT S b 2)) ≤ 4 := Decidable.byContradiction fun q => c_6 (g_if0.mpr q)
        refine px (fun _ => pm_iconst (v := 1) (pc := 207) d_Mo_shape_207 rfl) ?_
        refine px (fun _ => pm_goto (tgt := 212) (pc := 208) d_Mo_shape_208 (by decide)) ?_
        exact pxr (pm_iret (pc := 212) d_Mo_shape_212 rfl rfl) (m_PX_y H5 (F5) (by rw [if_pos (by first | omega | assumption), if_pos (by first | omega | assumption)]; exact g_sh_y (by first | omega | assumption)))
set_option maxHeartbeats 1000000 in
set_option maxRecDepth 20000 in
theorem sh_3 {l : Launch} {G : pm_G} {fi : Bool} {h : pm_H} {S : gS} {T : mS} {n a b o9 : Nat}  (hl : l.stackTraces = false) (H : mH T h) (hn : n < 14) (hop : mA T 6 n = 3) (ea : mQ T 12 (n * 3) = nI a) (ha : a < 20) (ta : mTb S T a) (ra : g_rng S a) (eb : mQ T 12 (n * 3 + 1) = nI b) (hb : b < 20) (tb : mTb S T b) (rb : g_rng S b) (ho : mA T 7 n = o9) (ho9 : o9 < 20)  : pm_Cn l G fi fi 0 0 M_Mo_shape [.ref 95, .int (nI n)] h (m_PX T o9 h (if gT S a 0 = gT S b 0 then if (gT S a 1 = gT S b 1 ∨ gT S a 1 = 1 ∨ gT S b 1 = 1) ∧ (gT S a 2 = gT S b 2 ∨ gT S a 2 = 1 ∨ gT S b 2 = 1) then g_sh (gT S a 0) (max (gT S a 1) (gT S b 1)) (max (gT S a 2) (gT S b 2)) else none else none)) := by
  refine pm_Cn.of hl (by decide) (Nat.le_of_ble_eq_true rfl) ?_
  obtain ⟨r1, r2, r3, r4, r5⟩ := id ra
  obtain ⟨s1, s2, s3, s4, s5⟩ := id rb
  refine sh_pre2 hl H hn hop ea ha ta ra eb hb tb rb (by decide) (by decide) ?_
  refine px (fun _ => pm_iload_n (pc := 131) d_Mo_shape_131 rfl) ?_
  refine px (fun _ => pm_iconst (v := 4) (pc := 132) d_Mo_shape_132 rfl) ?_
  refine pxb (fun _ => pm_icmp_lt (pc := 133) (tgt := 142) d_Mo_shape_133 (by decide)) (fun c_1 => ?_) (fun c_1 => absurd (by decide) c_1)
  refine px (fun _ => pm_iload (pc := 142) d_Mo_shape_142 rfl) ?_
  refine pxb (fun _ => pm_if_eq (pc := 144) (tgt := 211) d_Mo_shape_144 (by decide)) (fun c_2 => ?_) (fun c_2 => ?_)
  · have n_c_2 : ¬ (gT S a 0 = gT S b 0) := g_if0.mp c_2
    refine px (fun _ => pm_iconst (v := 0) (pc := 211) d_Mo_shape_211 rfl) ?_
    exact pxr (pm_iret (pc := 212) d_Mo_shape_212 rfl rfl) (m_PX_0 H (mFr.rf _) (by first | (exact if_neg (by first | omega | assumption)) | (rw [if_pos (by first | omega | assumption)]; exact if_neg (by first | omega | assumption)) | (rw [if_pos (by first | omega | assumption), if_pos (by first | omega | assumption)]; exact g_sh_n (by first | omega | assumption))))
  · have n_c_2 : gT S a 0 = gT S b 0 := Decidable.byContradiction fun q => c_2 (g_if0.mpr q)
    refine px (fun _ => pm_aload_n (pc := 147) d_Mo_shape_147 rfl) ?_
    refine px (fun _ => pm_iload_n (pc := 148) d_Mo_shape_148 rfl) ?_
    refine px (fun _ => pm_iload (pc := 149) d_Mo_shape_149 rfl) ?_
    refine px (fun _ => k_Mo_shape_151 (kc1 := 0) (ks1 := 0) (kc := 0) (ks := 0) (av := [.int (nI a), .int (nI b)]) (st := []) H.1 (m_fitting hl H ha hb ta tb ra rb) rfl rfl (Nat.le_of_ble_eq_true rfl)) ?_
    refine pxb (fun _ => pm_if_eq (pc := 154) (tgt := 211) d_Mo_shape_154 (by decide)) (fun c_3 => ?_) (fun c_3 => ?_)
    · have n_c_3 : ¬ ((gT S a 1 = gT S b 1 ∨ gT S a 1 = 1 ∨ gT S b 1 = 1) ∧ (gT S a 2 = gT S b 2 ∨ gT S a 2 = 1 ∨ gT S b 2 = 1)) := g_if0.mp c_3
      refine px (fun _ => pm_iconst (v := 0) (pc := 211) d_Mo_shape_211 rfl) ?_
      exact pxr (pm_iret (pc := 212) d_Mo_shape_212 rfl rfl) (m_PX_0 H (mFr.rf _) (by first | (exact if_neg (by first | omega | assumption)) | (rw [if_pos (by first | omega | assumption)]; exact if_neg (by first | omega | assumption)) | (rw [if_pos (by first | omega | assumption), if_pos (by first | omega | assumption)]; exact g_sh_n (by first | omega | assumption))))
    · have n_c_3 : (gT S a 1 = gT S b 1 ∨ gT S a 1 = 1 ∨ gT S b 1 = 1) ∧ (gT S a 2 = gT S b 2 ∨ gT S a 2 = 1 ∨ gT S b 2 = 1) := Decidable.byContradiction fun q => c_3 (g_if0.mpr q)
      refine px (fun _ => pm_aload_n (pc := 157) d_Mo_shape_157 rfl) ?_
      refine px (fun _ => pm_iload_n (pc := 158) d_Mo_shape_158 rfl) ?_
      refine px (fun _ => pm_iload_n (pc := 159) d_Mo_shape_159 rfl) ?_
      refine px (fun _ => pm_bipush (v := 8) (pc := 160) d_Mo_shape_160 rfl) ?_
      refine pxn (fun _ => pm_icmp_ne (pc := 162) (tgt := 169) d_Mo_shape_162 (by decide)) (fun c_4 => ?_) (fun c_4 => absurd c_4 (by decide))
      refine px (fun _ => pm_aload_n (pc := 169) d_Mo_shape_169 rfl) ?_
      refine px (fun _ => pm_getf fl_Mo_13 (pc := 170) d_Mo_shape_170 H.1 rfl) ?_
      refine px (fun _ => pm_iload_n (pc := 173) d_Mo_shape_173 rfl) ?_
      refine px (fun _ => pm_iald (j := a) (pc := 174) d_Mo_shape_174 H.2.2.1 (rfl) (ha) (by decide)) ?_
      rw [ta.1]
      refine px (fun _ => pm_aload_n (pc := 175) d_Mo_shape_175 rfl) ?_
      refine px (fun _ => pm_iload (pc := 176) d_Mo_shape_176 rfl) ?_
      refine px (fun _ => pm_aload_n (pc := 178) d_Mo_shape_178 rfl) ?_
      refine px (fun _ => pm_getf fl_Mo_16 (pc := 179) d_Mo_shape_179 H.1 rfl) ?_
      refine px (fun _ => pm_iload (pc := 182) d_Mo_shape_182 rfl) ?_
      refine px (fun _ => pm_iald (j := b) (pc := 184) d_Mo_shape_184 H.2.2.2.1 (rfl) (hb) (by decide)) ?_
      rw [tb.2.1]
      refine px (fun _ => k_Mo_shape_185 (kc1 := 0) (ks1 := 0) (kc := 0) (ks := 0) (av := [.int (nI (gT S a 1)), .int (nI (gT S b 1))]) (st := [.int (nI (gT S a 0)), .int (nI n), .ref (95)]) H.1 (m_most hl H (by omega) (by omega)) rfl rfl (Nat.le_of_ble_eq_true rfl)) ?_
      refine px (fun _ => pm_aload_n (pc := 188) d_Mo_shape_188 rfl) ?_
      refine px (fun _ => pm_iload (pc := 189) d_Mo_shape_189 rfl) ?_
      refine px (fun _ => pm_aload_n (pc := 191) d_Mo_shape_191 rfl) ?_
      refine px (fun _ => pm_getf fl_Mo_19 (pc := 192) d_Mo_shape_192 H.1 rfl) ?_
      refine px (fun _ => pm_iload (pc := 195) d_Mo_shape_195 rfl) ?_
      refine px (fun _ => pm_iald (j := b) (pc := 197) d_Mo_shape_197 H.2.2.2.2.1 (rfl) (hb) (by decide)) ?_
      rw [tb.2.2]
      refine px (fun _ => k_Mo_shape_198 (kc1 := 0) (ks1 := 0) (kc := 0) (ks := 0) (av := [.int (nI (gT S a 2)), .int (nI (gT S b 2))]) (st := [.int (nI (max (gT S a 1) (gT S b 1))), .int (nI (gT S a 0)), .int (nI n), .ref (95)]) H.1 (m_most hl H (by omega) (by omega)) rfl rfl (Nat.le_of_ble_eq_true rfl)) ?_
      obtain ⟨⟨o5, h5⟩, ⟨e5, H5, F5⟩, en5⟩ := m_give (l := l) (G := G) (fi := fi) (T := T) (t := (gT S a 0)) (r := (max (gT S a 1) (gT S b 1))) (c := (max (gT S a 2) (gT S b 2))) hl H hn ho ho9 (by omega) (by omega)
      dsimp only at e5 H5 F5
      subst e5
      refine px (fun _ => k_Mo_shape_201 (kc1 := 0) (ks1 := 0) (kc := 0) (ks := 0) (av := [.int (nI n), .int (nI (gT S a 0)), .int (nI (max (gT S a 1) (gT S b 1))), .int (nI (max (gT S a 2) (gT S b 2)))]) (st := []) H.1 (en5) rfl rfl (Nat.le_of_ble_eq_true rfl)) ?_
      refine pxb (fun _ => pm_if_eq (pc := 204) (tgt := 211) d_Mo_shape_204 (by decide)) (fun c_6 => ?_) (fun c_6 => ?_)
      · have n_c_6 : ¬ ((1 ≤ (max (gT S a 1) (gT S b 1)) ∧ (max (gT S a 1) (gT S b 1)) ≤ 4) ∧ 1 ≤ (max (gT S a 2) (gT S b 2)) ∧ (max (gT S a 2) (gT S b 2)) ≤ 4) := g_if0.mp c_6
        refine px (fun _ => pm_iconst (v := 0) (pc := 211) d_Mo_shape_211 rfl) ?_
        exact pxr (pm_iret (pc := 212) d_Mo_shape_212 rfl rfl) (m_PX_n H5 (F5) (by first | (exact if_neg (by first | omega | assumption)) | (rw [if_pos (by first | omega | assumption)]; exact if_neg (by first | omega | assumption)) | (rw [if_pos (by first | omega | assumption), if_pos (by first | omega | assumption)]; exact g_sh_n (by first | omega | assumption))))
      · have n_c_6 : (1 ≤ (max (gT S a 1) (gT S b 1)) ∧ (max (gT S a 1) (gT S b 1)) ≤ 4) ∧ 1 ≤ (max (gT S a 2) (gT S b 2)) ∧ (max (gT S a 2) (gT S b 2)) ≤ 4 := Decidable.byContradiction fun q => c_6 (g_if0.mpr q)
        refine px (fun _ => pm_iconst (v := 1) (pc := 207) d_Mo_shape_207 rfl) ?_
        refine px (fun _ => pm_goto (tgt := 212) (pc := 208) d_Mo_shape_208 (by decide)) ?_
        exact pxr (pm_iret (pc := 212) d_Mo_shape_212 rfl rfl) (m_PX_y H5 (F5) (by rw [if_pos (by first | omega | assumption), if_pos (by first | omega | assumption)]; exact g_sh_y (by first | omega | assumption)))
set_option maxHeartbeats 1000000 in
set_option maxRecDepth 20000 in
theorem sh_8 {l : Launch} {G : pm_G} {fi : Bool} {h : pm_H} {S : gS} {T : mS} {n a b o9 : Nat}  (hl : l.stackTraces = false) (H : mH T h) (hn : n < 14) (hop : mA T 6 n = 8) (ea : mQ T 12 (n * 3) = nI a) (ha : a < 20) (ta : mTb S T a) (ra : g_rng S a) (eb : mQ T 12 (n * 3 + 1) = nI b) (hb : b < 20) (tb : mTb S T b) (rb : g_rng S b) (ho : mA T 7 n = o9) (ho9 : o9 < 20)  : pm_Cn l G fi fi 0 0 M_Mo_shape [.ref 95, .int (nI n)] h (m_PX T o9 h (if gT S a 0 = gT S b 0 then if (gT S a 1 = gT S b 1 ∨ gT S a 1 = 1 ∨ gT S b 1 = 1) ∧ (gT S a 2 = gT S b 2 ∨ gT S a 2 = 1 ∨ gT S b 2 = 1) then g_sh (1) (max (gT S a 1) (gT S b 1)) (max (gT S a 2) (gT S b 2)) else none else none)) := by
  refine pm_Cn.of hl (by decide) (Nat.le_of_ble_eq_true rfl) ?_
  obtain ⟨r1, r2, r3, r4, r5⟩ := id ra
  obtain ⟨s1, s2, s3, s4, s5⟩ := id rb
  refine sh_pre2 hl H hn hop ea ha ta ra eb hb tb rb (by decide) (by decide) ?_
  refine px (fun _ => pm_iload_n (pc := 131) d_Mo_shape_131 rfl) ?_
  refine px (fun _ => pm_iconst (v := 4) (pc := 132) d_Mo_shape_132 rfl) ?_
  refine pxb (fun _ => pm_icmp_lt (pc := 133) (tgt := 142) d_Mo_shape_133 (by decide)) (fun c_1 => absurd c_1 (by decide)) (fun c_1 => ?_)
  refine px (fun _ => pm_iload_n (pc := 136) d_Mo_shape_136 rfl) ?_
  refine px (fun _ => pm_bipush (v := 8) (pc := 137) d_Mo_shape_137 rfl) ?_
  refine pxn (fun _ => pm_icmp_ne (pc := 139) (tgt := 213) d_Mo_shape_139 (by decide)) (fun c_2 => absurd (by decide) c_2) (fun c_2 => ?_)
  refine px (fun _ => pm_iload (pc := 142) d_Mo_shape_142 rfl) ?_
  refine pxb (fun _ => pm_if_eq (pc := 144) (tgt := 211) d_Mo_shape_144 (by decide)) (fun c_3 => ?_) (fun c_3 => ?_)
  · have n_c_3 : ¬ (gT S a 0 = gT S b 0) := g_if0.mp c_3
    refine px (fun _ => pm_iconst (v := 0) (pc := 211) d_Mo_shape_211 rfl) ?_
    exact pxr (pm_iret (pc := 212) d_Mo_shape_212 rfl rfl) (m_PX_0 H (mFr.rf _) (by first | (exact if_neg (by first | omega | assumption)) | (rw [if_pos (by first | omega | assumption)]; exact if_neg (by first | omega | assumption)) | (rw [if_pos (by first | omega | assumption), if_pos (by first | omega | assumption)]; exact g_sh_n (by first | omega | assumption))))
  · have n_c_3 : gT S a 0 = gT S b 0 := Decidable.byContradiction fun q => c_3 (g_if0.mpr q)
    refine px (fun _ => pm_aload_n (pc := 147) d_Mo_shape_147 rfl) ?_
    refine px (fun _ => pm_iload_n (pc := 148) d_Mo_shape_148 rfl) ?_
    refine px (fun _ => pm_iload (pc := 149) d_Mo_shape_149 rfl) ?_
    refine px (fun _ => k_Mo_shape_151 (kc1 := 0) (ks1 := 0) (kc := 0) (ks := 0) (av := [.int (nI a), .int (nI b)]) (st := []) H.1 (m_fitting hl H ha hb ta tb ra rb) rfl rfl (Nat.le_of_ble_eq_true rfl)) ?_
    refine pxb (fun _ => pm_if_eq (pc := 154) (tgt := 211) d_Mo_shape_154 (by decide)) (fun c_4 => ?_) (fun c_4 => ?_)
    · have n_c_4 : ¬ ((gT S a 1 = gT S b 1 ∨ gT S a 1 = 1 ∨ gT S b 1 = 1) ∧ (gT S a 2 = gT S b 2 ∨ gT S a 2 = 1 ∨ gT S b 2 = 1)) := g_if0.mp c_4
      refine px (fun _ => pm_iconst (v := 0) (pc := 211) d_Mo_shape_211 rfl) ?_
      exact pxr (pm_iret (pc := 212) d_Mo_shape_212 rfl rfl) (m_PX_0 H (mFr.rf _) (by first | (exact if_neg (by first | omega | assumption)) | (rw [if_pos (by first | omega | assumption)]; exact if_neg (by first | omega | assumption)) | (rw [if_pos (by first | omega | assumption), if_pos (by first | omega | assumption)]; exact g_sh_n (by first | omega | assumption))))
    · have n_c_4 : (gT S a 1 = gT S b 1 ∨ gT S a 1 = 1 ∨ gT S b 1 = 1) ∧ (gT S a 2 = gT S b 2 ∨ gT S a 2 = 1 ∨ gT S b 2 = 1) := Decidable.byContradiction fun q => c_4 (g_if0.mpr q)
      refine px (fun _ => pm_aload_n (pc := 157) d_Mo_shape_157 rfl) ?_
      refine px (fun _ => pm_iload_n (pc := 158) d_Mo_shape_158 rfl) ?_
      refine px (fun _ => pm_iload_n (pc := 159) d_Mo_shape_159 rfl) ?_
      refine px (fun _ => pm_bipush (v := 8) (pc := 160) d_Mo_shape_160 rfl) ?_
      refine pxn (fun _ => pm_icmp_ne (pc := 162) (tgt := 169) d_Mo_shape_162 (by decide)) (fun c_5 => absurd (by decide) c_5) (fun c_5 => ?_)
      refine px (fun _ => pm_iconst (v := 1) (pc := 165) d_Mo_shape_165 rfl) ?_
      refine px (fun _ => pm_goto (tgt := 175) (pc := 166) d_Mo_shape_166 (by decide)) ?_
      refine px (fun _ => pm_aload_n (pc := 175) d_Mo_shape_175 rfl) ?_
      refine px (fun _ => pm_iload (pc := 176) d_Mo_shape_176 rfl) ?_
      refine px (fun _ => pm_aload_n (pc := 178) d_Mo_shape_178 rfl) ?_
      refine px (fun _ => pm_getf fl_Mo_16 (pc := 179) d_Mo_shape_179 H.1 rfl) ?_
      refine px (fun _ => pm_iload (pc := 182) d_Mo_shape_182 rfl) ?_
      refine px (fun _ => pm_iald (j := b) (pc := 184) d_Mo_shape_184 H.2.2.2.1 (rfl) (hb) (by decide)) ?_
      rw [tb.2.1]
      refine px (fun _ => k_Mo_shape_185 (kc1 := 0) (ks1 := 0) (kc := 0) (ks := 0) (av := [.int (nI (gT S a 1)), .int (nI (gT S b 1))]) (st := [.int (1), .int (nI n), .ref (95)]) H.1 (m_most hl H (by omega) (by omega)) rfl rfl (Nat.le_of_ble_eq_true rfl)) ?_
      refine px (fun _ => pm_aload_n (pc := 188) d_Mo_shape_188 rfl) ?_
      refine px (fun _ => pm_iload (pc := 189) d_Mo_shape_189 rfl) ?_
      refine px (fun _ => pm_aload_n (pc := 191) d_Mo_shape_191 rfl) ?_
      refine px (fun _ => pm_getf fl_Mo_19 (pc := 192) d_Mo_shape_192 H.1 rfl) ?_
      refine px (fun _ => pm_iload (pc := 195) d_Mo_shape_195 rfl) ?_
      refine px (fun _ => pm_iald (j := b) (pc := 197) d_Mo_shape_197 H.2.2.2.2.1 (rfl) (hb) (by decide)) ?_
      rw [tb.2.2]
      refine px (fun _ => k_Mo_shape_198 (kc1 := 0) (ks1 := 0) (kc := 0) (ks := 0) (av := [.int (nI (gT S a 2)), .int (nI (gT S b 2))]) (st := [.int (nI (max (gT S a 1) (gT S b 1))), .int (1), .int (nI n), .ref (95)]) H.1 (m_most hl H (by omega) (by omega)) rfl rfl (Nat.le_of_ble_eq_true rfl)) ?_
      obtain ⟨⟨o6, h6⟩, ⟨e6, H6, F6⟩, en6⟩ := m_give (l := l) (G := G) (fi := fi) (T := T) (t := 1) (r := (max (gT S a 1) (gT S b 1))) (c := (max (gT S a 2) (gT S b 2))) hl H hn ho ho9 (by omega) (by omega)
      dsimp only at e6 H6 F6
      subst e6
      refine px (fun _ => k_Mo_shape_201 (kc1 := 0) (ks1 := 0) (kc := 0) (ks := 0) (av := [.int (nI n), .int (1), .int (nI (max (gT S a 1) (gT S b 1))), .int (nI (max (gT S a 2) (gT S b 2)))]) (st := []) H.1 (en6) rfl rfl (Nat.le_of_ble_eq_true rfl)) ?_
      refine pxb (fun _ => pm_if_eq (pc := 204) (tgt := 211) d_Mo_shape_204 (by decide)) (fun c_7 => ?_) (fun c_7 => ?_)
      · have n_c_7 : ¬ ((1 ≤ (max (gT S a 1) (gT S b 1)) ∧ (max (gT S a 1) (gT S b 1)) ≤ 4) ∧ 1 ≤ (max (gT S a 2) (gT S b 2)) ∧ (max (gT S a 2) (gT S b 2)) ≤ 4) := g_if0.mp c_7
        refine px (fun _ => pm_iconst (v := 0) (pc := 211) d_Mo_shape_211 rfl) ?_
        exact pxr (pm_iret (pc := 212) d_Mo_shape_212 rfl rfl) (m_PX_n H6 (F6) (by first | (exact if_neg (by first | omega | assumption)) | (rw [if_pos (by first | omega | assumption)]; exact if_neg (by first | omega | assumption)) | (rw [if_pos (by first | omega | assumption), if_pos (by first | omega | assumption)]; exact g_sh_n (by first | omega | assumption))))
      · have n_c_7 : (1 ≤ (max (gT S a 1) (gT S b 1)) ∧ (max (gT S a 1) (gT S b 1)) ≤ 4) ∧ 1 ≤ (max (gT S a 2) (gT S b 2)) ∧ (max (gT S a 2) (gT S b 2)) ≤ 4 := Decidable.byContradiction fun q => c_7 (g_if0.mpr q)
        refine px (fun _ => pm_iconst (v := 1) (pc := 207) d_Mo_shape_207 rfl) ?_
        refine px (fun _ => pm_goto (tgt := 212) (pc := 208) d_Mo_shape_208 (by decide)) ?_
        exact pxr (pm_iret (pc := 212) d_Mo_shape_212 rfl rfl) (m_PX_y H6 (F6) (by rw [if_pos (by first | omega | assumption), if_pos (by first | omega | assumption)]; exact g_sh_y (by first | omega | assumption)))
set_option maxHeartbeats 1000000 in
set_option maxRecDepth 20000 in
theorem sh_4 {l : Launch} {G : pm_G} {fi : Bool} {h : pm_H} {S : gS} {T : mS} {n a b o9 : Nat}  (hl : l.stackTraces = false) (H : mH T h) (hn : n < 14) (hop : mA T 6 n = 4) (ea : mQ T 12 (n * 3) = nI a) (ha : a < 20) (ta : mTb S T a) (ra : g_rng S a) (eb : mQ T 12 (n * 3 + 1) = nI b) (hb : b < 20) (tb : mTb S T b) (rb : g_rng S b) (ho : mA T 7 n = o9) (ho9 : o9 < 20)  : pm_Cn l G fi fi 0 0 M_Mo_shape [.ref 95, .int (nI n)] h (m_PX T o9 h (if (gT S a 0 = 0 ∧ gT S b 0 = 0) ∧ gT S a 2 = gT S b 1 then g_sh 0 (gT S a 1) (gT S b 2) else none)) := by
  refine pm_Cn.of hl (by decide) (Nat.le_of_ble_eq_true rfl) ?_
  obtain ⟨r1, r2, r3, r4, r5⟩ := id ra
  obtain ⟨s1, s2, s3, s4, s5⟩ := id rb
  refine sh_pre2 hl H hn hop ea ha ta ra eb hb tb rb (by decide) (by decide) ?_
  refine px (fun _ => pm_iload_n (pc := 131) d_Mo_shape_131 rfl) ?_
  refine px (fun _ => pm_iconst (v := 4) (pc := 132) d_Mo_shape_132 rfl) ?_
  refine pxb (fun _ => pm_icmp_lt (pc := 133) (tgt := 142) d_Mo_shape_133 (by decide)) (fun c_1 => absurd c_1 (by decide)) (fun c_1 => ?_)
  refine px (fun _ => pm_iload_n (pc := 136) d_Mo_shape_136 rfl) ?_
  refine px (fun _ => pm_bipush (v := 8) (pc := 137) d_Mo_shape_137 rfl) ?_
  refine pxn (fun _ => pm_icmp_ne (pc := 139) (tgt := 213) d_Mo_shape_139 (by decide)) (fun c_2 => ?_) (fun c_2 => absurd c_2 (by decide))
  refine px (fun _ => pm_iload_n (pc := 213) d_Mo_shape_213 rfl) ?_
  refine px (fun _ => pm_iconst (v := 4) (pc := 214) d_Mo_shape_214 rfl) ?_
  refine pxn (fun _ => pm_icmp_ne (pc := 215) (tgt := 259) d_Mo_shape_215 (by decide)) (fun c_3 => absurd (by decide) c_3) (fun c_3 => ?_)
  refine px (fun _ => pm_iload (pc := 218) d_Mo_shape_218 rfl) ?_
  refine pxb (fun _ => pm_if_eq (pc := 220) (tgt := 257) d_Mo_shape_220 (by decide)) (fun c_4 => ?_) (fun c_4 => ?_)
  · have n_c_4 : ¬ (gT S a 0 = 0 ∧ gT S b 0 = 0) := g_if0.mp c_4
    refine px (fun _ => pm_iconst (v := 0) (pc := 257) d_Mo_shape_257 rfl) ?_
    exact pxr (pm_iret (pc := 258) d_Mo_shape_258 rfl rfl) (m_PX_0 H (mFr.rf _) (by first | (exact if_neg (by first | omega | assumption)) | (rw [if_pos (by first | omega | assumption)]; exact g_sh_n (by first | omega | assumption))))
  · have n_c_4 : gT S a 0 = 0 ∧ gT S b 0 = 0 := Decidable.byContradiction fun q => c_4 (g_if0.mpr q)
    refine px (fun _ => pm_iload (pc := 223) d_Mo_shape_223 rfl) ?_
    refine px (fun _ => pm_aload_n (pc := 225) d_Mo_shape_225 rfl) ?_
    refine px (fun _ => pm_getf fl_Mo_16 (pc := 226) d_Mo_shape_226 H.1 rfl) ?_
    refine px (fun _ => pm_iload (pc := 229) d_Mo_shape_229 rfl) ?_
    refine px (fun _ => pm_iald (j := b) (pc := 231) d_Mo_shape_231 H.2.2.2.1 (rfl) (hb) (by decide)) ?_
    rw [tb.2.1]
    refine pxn (fun _ => pm_icmp_ne (pc := 232) (tgt := 257) d_Mo_shape_232 (by decide)) (fun c_5 => ?_) (fun c_5 => ?_)
    · have n_c_5 : ¬ ((gT S a 2) = (gT S b 1)) := fun zq => c_5 ((nI_eq (a := (gT S a 2)) (b := (gT S b 1)) (by omega) (by omega)).mpr zq)
      refine px (fun _ => pm_iconst (v := 0) (pc := 257) d_Mo_shape_257 rfl) ?_
      exact pxr (pm_iret (pc := 258) d_Mo_shape_258 rfl rfl) (m_PX_0 H (mFr.rf _) (by first | (exact if_neg (by first | omega | assumption)) | (rw [if_pos (by first | omega | assumption)]; exact g_sh_n (by first | omega | assumption))))
    · have n_c_5 : (gT S a 2) = (gT S b 1) := (nI_eq (a := (gT S a 2)) (b := (gT S b 1)) (by omega) (by omega)).mp c_5
      refine px (fun _ => pm_aload_n (pc := 235) d_Mo_shape_235 rfl) ?_
      refine px (fun _ => pm_iload_n (pc := 236) d_Mo_shape_236 rfl) ?_
      refine px (fun _ => pm_iconst (v := 0) (pc := 237) d_Mo_shape_237 rfl) ?_
      refine px (fun _ => pm_iload (pc := 238) d_Mo_shape_238 rfl) ?_
      refine px (fun _ => pm_aload_n (pc := 240) d_Mo_shape_240 rfl) ?_
      refine px (fun _ => pm_getf fl_Mo_19 (pc := 241) d_Mo_shape_241 H.1 rfl) ?_
      refine px (fun _ => pm_iload (pc := 244) d_Mo_shape_244 rfl) ?_
      refine px (fun _ => pm_iald (j := b) (pc := 246) d_Mo_shape_246 H.2.2.2.2.1 (rfl) (hb) (by decide)) ?_
      rw [tb.2.2]
      obtain ⟨⟨o6, h6⟩, ⟨e6, H6, F6⟩, en6⟩ := m_give (l := l) (G := G) (fi := fi) (T := T) (t := 0) (r := (gT S a 1)) (c := (gT S b 2)) hl H hn ho ho9 (by omega) (by omega)
      dsimp only at e6 H6 F6
      subst e6
      refine px (fun _ => k_Mo_shape_247 (kc1 := 0) (ks1 := 0) (kc := 0) (ks := 0) (av := [.int (nI n), .int (0), .int (nI (gT S a 1)), .int (nI (gT S b 2))]) (st := []) H.1 (en6) rfl rfl (Nat.le_of_ble_eq_true rfl)) ?_
      refine pxb (fun _ => pm_if_eq (pc := 250) (tgt := 257) d_Mo_shape_250 (by decide)) (fun c_7 => ?_) (fun c_7 => ?_)
      · have n_c_7 : ¬ ((1 ≤ (gT S a 1) ∧ (gT S a 1) ≤ 4) ∧ 1 ≤ (gT S b 2) ∧ (gT S b 2) ≤ 4) := g_if0.mp c_7
        refine px (fun _ => pm_iconst (v := 0) (pc := 257) d_Mo_shape_257 rfl) ?_
        exact pxr (pm_iret (pc := 258) d_Mo_shape_258 rfl rfl) (m_PX_n H6 (F6) (by first | (exact if_neg (by first | omega | assumption)) | (rw [if_pos (by first | omega | assumption)]; exact g_sh_n (by first | omega | assumption))))
      · have n_c_7 : (1 ≤ (gT S a 1) ∧ (gT S a 1) ≤ 4) ∧ 1 ≤ (gT S b 2) ∧ (gT S b 2) ≤ 4 := Decidable.byContradiction fun q => c_7 (g_if0.mpr q)
        refine px (fun _ => pm_iconst (v := 1) (pc := 253) d_Mo_shape_253 rfl) ?_
        refine px (fun _ => pm_goto (tgt := 258) (pc := 254) d_Mo_shape_254 (by decide)) ?_
        exact pxr (pm_iret (pc := 258) d_Mo_shape_258 rfl rfl) (m_PX_y H6 (F6) (by rw [if_pos (by first | omega | assumption)]; exact g_sh_y (by first | omega | assumption)))
set_option maxHeartbeats 1000000 in
set_option maxRecDepth 20000 in
theorem sh_5 {l : Launch} {G : pm_G} {fi : Bool} {h : pm_H} {S : gS} {T : mS} {n a o9 : Nat}  (hl : l.stackTraces = false) (H : mH T h) (hn : n < 14) (hop : mA T 6 n = 5) (ea : mQ T 12 (n * 3) = nI a) (ha : a < 20) (ta : mTb S T a) (ra : g_rng S a) (ho : mA T 7 n = o9) (ho9 : o9 < 20)  : pm_Cn l G fi fi 0 0 M_Mo_shape [.ref 95, .int (nI n)] h (m_PX T o9 h (if gT S a 0 = 0 then g_sh 0 (gT S a 1) (gT S a 2) else none)) := by
  refine pm_Cn.of hl (by decide) (Nat.le_of_ble_eq_true rfl) ?_
  obtain ⟨r1, r2, r3, r4, r5⟩ := id ra
  refine sh_pre1 hl H hn hop ea ha ta ra (by decide) (by decide) ?_
  refine px (fun _ => pm_iload_n (pc := 131) d_Mo_shape_131 rfl) ?_
  refine px (fun _ => pm_iconst (v := 4) (pc := 132) d_Mo_shape_132 rfl) ?_
  refine pxb (fun _ => pm_icmp_lt (pc := 133) (tgt := 142) d_Mo_shape_133 (by decide)) (fun c_1 => absurd c_1 (by decide)) (fun c_1 => ?_)
  refine px (fun _ => pm_iload_n (pc := 136) d_Mo_shape_136 rfl) ?_
  refine px (fun _ => pm_bipush (v := 8) (pc := 137) d_Mo_shape_137 rfl) ?_
  refine pxn (fun _ => pm_icmp_ne (pc := 139) (tgt := 213) d_Mo_shape_139 (by decide)) (fun c_2 => ?_) (fun c_2 => absurd c_2 (by decide))
  refine px (fun _ => pm_iload_n (pc := 213) d_Mo_shape_213 rfl) ?_
  refine px (fun _ => pm_iconst (v := 4) (pc := 214) d_Mo_shape_214 rfl) ?_
  refine pxn (fun _ => pm_icmp_ne (pc := 215) (tgt := 259) d_Mo_shape_215 (by decide)) (fun c_3 => ?_) (fun c_3 => absurd c_3 (by decide))
  refine px (fun _ => pm_iload_n (pc := 259) d_Mo_shape_259 rfl) ?_
  refine px (fun _ => pm_iconst (v := 5) (pc := 260) d_Mo_shape_260 rfl) ?_
  refine pxb (fun _ => pm_icmp_eq (pc := 261) (tgt := 270) d_Mo_shape_261 (by decide)) (fun c_4 => ?_) (fun c_4 => absurd (by decide) c_4)
  refine px (fun _ => pm_iload (pc := 270) d_Mo_shape_270 rfl) ?_
  refine pxb (fun _ => pm_if_eq (pc := 272) (tgt := 292) d_Mo_shape_272 (by decide)) (fun c_5 => ?_) (fun c_5 => ?_)
  · have n_c_5 : ¬ (gT S a 0 = 0 ∧ gT S a 0 = 0) := g_if0.mp c_5
    refine px (fun _ => pm_iconst (v := 0) (pc := 292) d_Mo_shape_292 rfl) ?_
    exact pxr (pm_iret (pc := 293) d_Mo_shape_293 rfl rfl) (m_PX_0 H (mFr.rf _) (by first | (exact if_neg (by first | omega | assumption)) | (rw [if_pos (by first | omega | assumption)]; exact g_sh_n (by first | omega | assumption))))
  · have n_c_5 : gT S a 0 = 0 ∧ gT S a 0 = 0 := Decidable.byContradiction fun q => c_5 (g_if0.mpr q)
    refine px (fun _ => pm_aload_n (pc := 275) d_Mo_shape_275 rfl) ?_
    refine px (fun _ => pm_iload_n (pc := 276) d_Mo_shape_276 rfl) ?_
    refine px (fun _ => pm_iconst (v := 0) (pc := 277) d_Mo_shape_277 rfl) ?_
    refine px (fun _ => pm_iload (pc := 278) d_Mo_shape_278 rfl) ?_
    refine px (fun _ => pm_iload (pc := 280) d_Mo_shape_280 rfl) ?_
    obtain ⟨⟨o6, h6⟩, ⟨e6, H6, F6⟩, en6⟩ := m_give (l := l) (G := G) (fi := fi) (T := T) (t := 0) (r := (gT S a 1)) (c := (gT S a 2)) hl H hn ho ho9 (by omega) (by omega)
    dsimp only at e6 H6 F6
    subst e6
    refine px (fun _ => k_Mo_shape_282 (kc1 := 0) (ks1 := 0) (kc := 0) (ks := 0) (av := [.int (nI n), .int (0), .int (nI (gT S a 1)), .int (nI (gT S a 2))]) (st := []) H.1 (en6) rfl rfl (Nat.le_of_ble_eq_true rfl)) ?_
    refine pxb (fun _ => pm_if_eq (pc := 285) (tgt := 292) d_Mo_shape_285 (by decide)) (fun c_7 => ?_) (fun c_7 => ?_)
    · have n_c_7 : ¬ ((1 ≤ (gT S a 1) ∧ (gT S a 1) ≤ 4) ∧ 1 ≤ (gT S a 2) ∧ (gT S a 2) ≤ 4) := g_if0.mp c_7
      refine px (fun _ => pm_iconst (v := 0) (pc := 292) d_Mo_shape_292 rfl) ?_
      exact pxr (pm_iret (pc := 293) d_Mo_shape_293 rfl rfl) (m_PX_n H6 (F6) (by first | (exact if_neg (by first | omega | assumption)) | (rw [if_pos (by first | omega | assumption)]; exact g_sh_n (by first | omega | assumption))))
    · have n_c_7 : (1 ≤ (gT S a 1) ∧ (gT S a 1) ≤ 4) ∧ 1 ≤ (gT S a 2) ∧ (gT S a 2) ≤ 4 := Decidable.byContradiction fun q => c_7 (g_if0.mpr q)
      refine px (fun _ => pm_iconst (v := 1) (pc := 288) d_Mo_shape_288 rfl) ?_
      refine px (fun _ => pm_goto (tgt := 293) (pc := 289) d_Mo_shape_289 (by decide)) ?_
      exact pxr (pm_iret (pc := 293) d_Mo_shape_293 rfl rfl) (m_PX_y H6 (F6) (by rw [if_pos (by first | omega | assumption)]; exact g_sh_y (by first | omega | assumption)))
set_option maxHeartbeats 1000000 in
set_option maxRecDepth 20000 in
theorem sh_18 {l : Launch} {G : pm_G} {fi : Bool} {h : pm_H} {S : gS} {T : mS} {n a o9 : Nat}  (hl : l.stackTraces = false) (H : mH T h) (hn : n < 14) (hop : mA T 6 n = 18) (ea : mQ T 12 (n * 3) = nI a) (ha : a < 20) (ta : mTb S T a) (ra : g_rng S a) (ho : mA T 7 n = o9) (ho9 : o9 < 20)  : pm_Cn l G fi fi 0 0 M_Mo_shape [.ref 95, .int (nI n)] h (m_PX T o9 h (if gT S a 0 = 0 then g_sh 0 (gT S a 1) (gT S a 2) else none)) := by
  refine pm_Cn.of hl (by decide) (Nat.le_of_ble_eq_true rfl) ?_
  obtain ⟨r1, r2, r3, r4, r5⟩ := id ra
  refine sh_pre1 hl H hn hop ea ha ta ra (by decide) (by decide) ?_
  refine px (fun _ => pm_iload_n (pc := 131) d_Mo_shape_131 rfl) ?_
  refine px (fun _ => pm_iconst (v := 4) (pc := 132) d_Mo_shape_132 rfl) ?_
  refine pxb (fun _ => pm_icmp_lt (pc := 133) (tgt := 142) d_Mo_shape_133 (by decide)) (fun c_1 => absurd c_1 (by decide)) (fun c_1 => ?_)
  refine px (fun _ => pm_iload_n (pc := 136) d_Mo_shape_136 rfl) ?_
  refine px (fun _ => pm_bipush (v := 8) (pc := 137) d_Mo_shape_137 rfl) ?_
  refine pxn (fun _ => pm_icmp_ne (pc := 139) (tgt := 213) d_Mo_shape_139 (by decide)) (fun c_2 => ?_) (fun c_2 => absurd c_2 (by decide))
  refine px (fun _ => pm_iload_n (pc := 213) d_Mo_shape_213 rfl) ?_
  refine px (fun _ => pm_iconst (v := 4) (pc := 214) d_Mo_shape_214 rfl) ?_
  refine pxn (fun _ => pm_icmp_ne (pc := 215) (tgt := 259) d_Mo_shape_215 (by decide)) (fun c_3 => ?_) (fun c_3 => absurd c_3 (by decide))
  refine px (fun _ => pm_iload_n (pc := 259) d_Mo_shape_259 rfl) ?_
  refine px (fun _ => pm_iconst (v := 5) (pc := 260) d_Mo_shape_260 rfl) ?_
  refine pxb (fun _ => pm_icmp_eq (pc := 261) (tgt := 270) d_Mo_shape_261 (by decide)) (fun c_4 => absurd c_4 (by decide)) (fun c_4 => ?_)
  refine px (fun _ => pm_iload_n (pc := 264) d_Mo_shape_264 rfl) ?_
  refine px (fun _ => pm_bipush (v := 18) (pc := 265) d_Mo_shape_265 rfl) ?_
  refine pxn (fun _ => pm_icmp_ne (pc := 267) (tgt := 294) d_Mo_shape_267 (by decide)) (fun c_5 => absurd (by decide) c_5) (fun c_5 => ?_)
  refine px (fun _ => pm_iload (pc := 270) d_Mo_shape_270 rfl) ?_
  refine pxb (fun _ => pm_if_eq (pc := 272) (tgt := 292) d_Mo_shape_272 (by decide)) (fun c_6 => ?_) (fun c_6 => ?_)
  · have n_c_6 : ¬ (gT S a 0 = 0 ∧ gT S a 0 = 0) := g_if0.mp c_6
    refine px (fun _ => pm_iconst (v := 0) (pc := 292) d_Mo_shape_292 rfl) ?_
    exact pxr (pm_iret (pc := 293) d_Mo_shape_293 rfl rfl) (m_PX_0 H (mFr.rf _) (by first | (exact if_neg (by first | omega | assumption)) | (rw [if_pos (by first | omega | assumption)]; exact g_sh_n (by first | omega | assumption))))
  · have n_c_6 : gT S a 0 = 0 ∧ gT S a 0 = 0 := Decidable.byContradiction fun q => c_6 (g_if0.mpr q)
    refine px (fun _ => pm_aload_n (pc := 275) d_Mo_shape_275 rfl) ?_
    refine px (fun _ => pm_iload_n (pc := 276) d_Mo_shape_276 rfl) ?_
    refine px (fun _ => pm_iconst (v := 0) (pc := 277) d_Mo_shape_277 rfl) ?_
    refine px (fun _ => pm_iload (pc := 278) d_Mo_shape_278 rfl) ?_
    refine px (fun _ => pm_iload (pc := 280) d_Mo_shape_280 rfl) ?_
    obtain ⟨⟨o7, h7⟩, ⟨e7, H7, F7⟩, en7⟩ := m_give (l := l) (G := G) (fi := fi) (T := T) (t := 0) (r := (gT S a 1)) (c := (gT S a 2)) hl H hn ho ho9 (by omega) (by omega)
    dsimp only at e7 H7 F7
    subst e7
    refine px (fun _ => k_Mo_shape_282 (kc1 := 0) (ks1 := 0) (kc := 0) (ks := 0) (av := [.int (nI n), .int (0), .int (nI (gT S a 1)), .int (nI (gT S a 2))]) (st := []) H.1 (en7) rfl rfl (Nat.le_of_ble_eq_true rfl)) ?_
    refine pxb (fun _ => pm_if_eq (pc := 285) (tgt := 292) d_Mo_shape_285 (by decide)) (fun c_8 => ?_) (fun c_8 => ?_)
    · have n_c_8 : ¬ ((1 ≤ (gT S a 1) ∧ (gT S a 1) ≤ 4) ∧ 1 ≤ (gT S a 2) ∧ (gT S a 2) ≤ 4) := g_if0.mp c_8
      refine px (fun _ => pm_iconst (v := 0) (pc := 292) d_Mo_shape_292 rfl) ?_
      exact pxr (pm_iret (pc := 293) d_Mo_shape_293 rfl rfl) (m_PX_n H7 (F7) (by first | (exact if_neg (by first | omega | assumption)) | (rw [if_pos (by first | omega | assumption)]; exact g_sh_n (by first | omega | assumption))))
    · have n_c_8 : (1 ≤ (gT S a 1) ∧ (gT S a 1) ≤ 4) ∧ 1 ≤ (gT S a 2) ∧ (gT S a 2) ≤ 4 := Decidable.byContradiction fun q => c_8 (g_if0.mpr q)
      refine px (fun _ => pm_iconst (v := 1) (pc := 288) d_Mo_shape_288 rfl) ?_
      refine px (fun _ => pm_goto (tgt := 293) (pc := 289) d_Mo_shape_289 (by decide)) ?_
      exact pxr (pm_iret (pc := 293) d_Mo_shape_293 rfl rfl) (m_PX_y H7 (F7) (by rw [if_pos (by first | omega | assumption)]; exact g_sh_y (by first | omega | assumption)))
set_option maxHeartbeats 1000000 in
set_option maxRecDepth 20000 in
theorem sh_6 {l : Launch} {G : pm_G} {fi : Bool} {h : pm_H} {S : gS} {T : mS} {n a o9 : Nat}  (hl : l.stackTraces = false) (H : mH T h) (hn : n < 14) (hop : mA T 6 n = 6) (ea : mQ T 12 (n * 3) = nI a) (ha : a < 20) (ta : mTb S T a) (ra : g_rng S a) (ho : mA T 7 n = o9) (ho9 : o9 < 20)  : pm_Cn l G fi fi 0 0 M_Mo_shape [.ref 95, .int (nI n)] h (m_PX T o9 h (g_sh (gT S a 0) (gT S a 2) (gT S a 1))) := by
  refine pm_Cn.of hl (by decide) (Nat.le_of_ble_eq_true rfl) ?_
  obtain ⟨r1, r2, r3, r4, r5⟩ := id ra
  refine sh_pre1 hl H hn hop ea ha ta ra (by decide) (by decide) ?_
  refine px (fun _ => pm_iload_n (pc := 131) d_Mo_shape_131 rfl) ?_
  refine px (fun _ => pm_iconst (v := 4) (pc := 132) d_Mo_shape_132 rfl) ?_
  refine pxb (fun _ => pm_icmp_lt (pc := 133) (tgt := 142) d_Mo_shape_133 (by decide)) (fun c_1 => absurd c_1 (by decide)) (fun c_1 => ?_)
  refine px (fun _ => pm_iload_n (pc := 136) d_Mo_shape_136 rfl) ?_
  refine px (fun _ => pm_bipush (v := 8) (pc := 137) d_Mo_shape_137 rfl) ?_
  refine pxn (fun _ => pm_icmp_ne (pc := 139) (tgt := 213) d_Mo_shape_139 (by decide)) (fun c_2 => ?_) (fun c_2 => absurd c_2 (by decide))
  refine px (fun _ => pm_iload_n (pc := 213) d_Mo_shape_213 rfl) ?_
  refine px (fun _ => pm_iconst (v := 4) (pc := 214) d_Mo_shape_214 rfl) ?_
  refine pxn (fun _ => pm_icmp_ne (pc := 215) (tgt := 259) d_Mo_shape_215 (by decide)) (fun c_3 => ?_) (fun c_3 => absurd c_3 (by decide))
  refine px (fun _ => pm_iload_n (pc := 259) d_Mo_shape_259 rfl) ?_
  refine px (fun _ => pm_iconst (v := 5) (pc := 260) d_Mo_shape_260 rfl) ?_
  refine pxb (fun _ => pm_icmp_eq (pc := 261) (tgt := 270) d_Mo_shape_261 (by decide)) (fun c_4 => absurd c_4 (by decide)) (fun c_4 => ?_)
  refine px (fun _ => pm_iload_n (pc := 264) d_Mo_shape_264 rfl) ?_
  refine px (fun _ => pm_bipush (v := 18) (pc := 265) d_Mo_shape_265 rfl) ?_
  refine pxn (fun _ => pm_icmp_ne (pc := 267) (tgt := 294) d_Mo_shape_267 (by decide)) (fun c_5 => ?_) (fun c_5 => absurd c_5 (by decide))
  refine px (fun _ => pm_iload_n (pc := 294) d_Mo_shape_294 rfl) ?_
  refine px (fun _ => pm_bipush (v := 6) (pc := 295) d_Mo_shape_295 rfl) ?_
  refine pxn (fun _ => pm_icmp_ne (pc := 297) (tgt := 316) d_Mo_shape_297 (by decide)) (fun c_6 => absurd (by decide) c_6) (fun c_6 => ?_)
  refine px (fun _ => pm_aload_n (pc := 300) d_Mo_shape_300 rfl) ?_
  refine px (fun _ => pm_iload_n (pc := 301) d_Mo_shape_301 rfl) ?_
  refine px (fun _ => pm_aload_n (pc := 302) d_Mo_shape_302 rfl) ?_
  refine px (fun _ => pm_getf fl_Mo_13 (pc := 303) d_Mo_shape_303 H.1 rfl) ?_
  refine px (fun _ => pm_iload_n (pc := 306) d_Mo_shape_306 rfl) ?_
  refine px (fun _ => pm_iald (j := a) (pc := 307) d_Mo_shape_307 H.2.2.1 (rfl) (ha) (by decide)) ?_
  rw [ta.1]
  refine px (fun _ => pm_iload (pc := 308) d_Mo_shape_308 rfl) ?_
  refine px (fun _ => pm_iload (pc := 310) d_Mo_shape_310 rfl) ?_
  obtain ⟨⟨o7, h7⟩, ⟨e7, H7, F7⟩, en7⟩ := m_give (l := l) (G := G) (fi := fi) (T := T) (t := (gT S a 0)) (r := (gT S a 2)) (c := (gT S a 1)) hl H hn ho ho9 (by omega) (by omega)
  dsimp only at e7 H7 F7
  subst e7
  refine px (fun _ => k_Mo_shape_312 (kc1 := 0) (ks1 := 0) (kc := 0) (ks := 0) (av := [.int (nI n), .int (nI (gT S a 0)), .int (nI (gT S a 2)), .int (nI (gT S a 1))]) (st := []) H.1 (en7) rfl rfl (Nat.le_of_ble_eq_true rfl)) ?_
  by_cases g9 : (1 ≤ (gT S a 2) ∧ (gT S a 2) ≤ 4) ∧ 1 ≤ (gT S a 1) ∧ (gT S a 1) ≤ 4
  · rw [if_pos g9]; exact pxr (pm_iret (pc := 315) d_Mo_shape_315 rfl rfl) (m_PX_y H7 (F7) (by exact g_sh_y (by first | omega | assumption)))
  · rw [if_neg g9]; exact pxr (pm_iret (pc := 315) d_Mo_shape_315 rfl rfl) (m_PX_n H7 (F7) (by first | (exact g_sh_n (by first | omega | assumption))))
set_option maxHeartbeats 1000000 in
set_option maxRecDepth 20000 in
theorem sh_7_0 {l : Launch} {G : pm_G} {fi : Bool} {h : pm_H} {S : gS} {T : mS} {n a o9 : Nat}  (hl : l.stackTraces = false) (H : mH T h) (hn : n < 14) (hop : mA T 6 n = 7) (ea : mQ T 12 (n * 3) = nI a) (ha : a < 20) (ta : mTb S T a) (ra : g_rng S a) (ho : mA T 7 n = o9) (ho9 : o9 < 20) (hp : mQ T 8 n = 0) : pm_Cn l G fi fi 0 0 M_Mo_shape [.ref 95, .int (nI n)] h (m_PX T o9 h (g_sh 0 (gT S a 1) (gT S a 2))) := by
  refine pm_Cn.of hl (by decide) (Nat.le_of_ble_eq_true rfl) ?_
  obtain ⟨r1, r2, r3, r4, r5⟩ := id ra
  refine sh_pre1 hl H hn hop ea ha ta ra (by decide) (by decide) ?_
  refine px (fun _ => pm_iload_n (pc := 131) d_Mo_shape_131 rfl) ?_
  refine px (fun _ => pm_iconst (v := 4) (pc := 132) d_Mo_shape_132 rfl) ?_
  refine pxb (fun _ => pm_icmp_lt (pc := 133) (tgt := 142) d_Mo_shape_133 (by decide)) (fun c_1 => absurd c_1 (by decide)) (fun c_1 => ?_)
  refine px (fun _ => pm_iload_n (pc := 136) d_Mo_shape_136 rfl) ?_
  refine px (fun _ => pm_bipush (v := 8) (pc := 137) d_Mo_shape_137 rfl) ?_
  refine pxn (fun _ => pm_icmp_ne (pc := 139) (tgt := 213) d_Mo_shape_139 (by decide)) (fun c_2 => ?_) (fun c_2 => absurd c_2 (by decide))
  refine px (fun _ => pm_iload_n (pc := 213) d_Mo_shape_213 rfl) ?_
  refine px (fun _ => pm_iconst (v := 4) (pc := 214) d_Mo_shape_214 rfl) ?_
  refine pxn (fun _ => pm_icmp_ne (pc := 215) (tgt := 259) d_Mo_shape_215 (by decide)) (fun c_3 => ?_) (fun c_3 => absurd c_3 (by decide))
  refine px (fun _ => pm_iload_n (pc := 259) d_Mo_shape_259 rfl) ?_
  refine px (fun _ => pm_iconst (v := 5) (pc := 260) d_Mo_shape_260 rfl) ?_
  refine pxb (fun _ => pm_icmp_eq (pc := 261) (tgt := 270) d_Mo_shape_261 (by decide)) (fun c_4 => absurd c_4 (by decide)) (fun c_4 => ?_)
  refine px (fun _ => pm_iload_n (pc := 264) d_Mo_shape_264 rfl) ?_
  refine px (fun _ => pm_bipush (v := 18) (pc := 265) d_Mo_shape_265 rfl) ?_
  refine pxn (fun _ => pm_icmp_ne (pc := 267) (tgt := 294) d_Mo_shape_267 (by decide)) (fun c_5 => ?_) (fun c_5 => absurd c_5 (by decide))
  refine px (fun _ => pm_iload_n (pc := 294) d_Mo_shape_294 rfl) ?_
  refine px (fun _ => pm_bipush (v := 6) (pc := 295) d_Mo_shape_295 rfl) ?_
  refine pxn (fun _ => pm_icmp_ne (pc := 297) (tgt := 316) d_Mo_shape_297 (by decide)) (fun c_6 => ?_) (fun c_6 => absurd c_6 (by decide))
  refine px (fun _ => pm_iload_n (pc := 316) d_Mo_shape_316 rfl) ?_
  refine px (fun _ => pm_bipush (v := 7) (pc := 317) d_Mo_shape_317 rfl) ?_
  refine pxn (fun _ => pm_icmp_ne (pc := 319) (tgt := 361) d_Mo_shape_319 (by decide)) (fun c_7 => absurd (by decide) c_7) (fun c_7 => ?_)
  refine px (fun _ => pm_aload_n (pc := 322) d_Mo_shape_322 rfl) ?_
  refine px (fun _ => pm_aload_n (pc := 323) d_Mo_shape_323 rfl) ?_
  refine px (fun _ => pm_getf fl_Mo_35 (pc := 324) d_Mo_shape_324 H.1 rfl) ?_
  refine px (fun _ => pm_iload_n (pc := 327) d_Mo_shape_327 rfl) ?_
  refine px (fun _ => pm_iald (j := n) (pc := 328) d_Mo_shape_328 H.2.2.2.2.2.2.2.2.2.1 (rfl) (hn) (by decide)) ?_
  rw [hp]
  refine px (fun _ => pm_iconst (v := 0) (pc := 329) d_Mo_shape_329 rfl) ?_
  refine px (fun _ => pm_iconst (v := 1) (pc := 330) d_Mo_shape_330 rfl) ?_
  refine px (fun _ => k_Mo_shape_331 (kc1 := 0) (ks1 := 0) (kc := 0) (ks := 0) (av := [.int (0), .int (0), .int (1)]) (st := []) H.1 (m_out_in hl H (by decide) (by decide)) rfl rfl (Nat.le_of_ble_eq_true rfl)) ?_
  refine pxn (fun _ => pm_if_ne (pc := 334) (tgt := 359) d_Mo_shape_334 (by decide)) (fun c_8 => absurd (by decide) c_8) (fun c_8 => ?_)
  refine px (fun _ => pm_aload_n (pc := 337) d_Mo_shape_337 rfl) ?_
  refine px (fun _ => pm_iload_n (pc := 338) d_Mo_shape_338 rfl) ?_
  refine px (fun _ => pm_aload_n (pc := 339) d_Mo_shape_339 rfl) ?_
  refine px (fun _ => pm_getf fl_Mo_35 (pc := 340) d_Mo_shape_340 H.1 rfl) ?_
  refine px (fun _ => pm_iload_n (pc := 343) d_Mo_shape_343 rfl) ?_
  refine px (fun _ => pm_iald (j := n) (pc := 344) d_Mo_shape_344 H.2.2.2.2.2.2.2.2.2.1 (rfl) (hn) (by decide)) ?_
  rw [hp]
  refine px (fun _ => pm_iload (pc := 345) d_Mo_shape_345 rfl) ?_
  refine px (fun _ => pm_iload (pc := 347) d_Mo_shape_347 rfl) ?_
  obtain ⟨⟨o9, h9⟩, ⟨e9, H9, F9⟩, en9⟩ := m_give (l := l) (G := G) (fi := fi) (T := T) (t := 0) (r := (gT S a 1)) (c := (gT S a 2)) hl H hn ho ho9 (by omega) (by omega)
  dsimp only at e9 H9 F9
  subst e9
  refine px (fun _ => k_Mo_shape_349 (kc1 := 0) (ks1 := 0) (kc := 0) (ks := 0) (av := [.int (nI n), .int (0), .int (nI (gT S a 1)), .int (nI (gT S a 2))]) (st := []) H.1 (en9) rfl rfl (Nat.le_of_ble_eq_true rfl)) ?_
  refine pxb (fun _ => pm_if_eq (pc := 352) (tgt := 359) d_Mo_shape_352 (by decide)) (fun c_10 => ?_) (fun c_10 => ?_)
  · have n_c_10 : ¬ ((1 ≤ (gT S a 1) ∧ (gT S a 1) ≤ 4) ∧ 1 ≤ (gT S a 2) ∧ (gT S a 2) ≤ 4) := g_if0.mp c_10
    refine px (fun _ => pm_iconst (v := 0) (pc := 359) d_Mo_shape_359 rfl) ?_
    exact pxr (pm_iret (pc := 360) d_Mo_shape_360 rfl rfl) (m_PX_n H9 (F9) (by first | (exact g_sh_n (by first | omega | assumption))))
  · have n_c_10 : (1 ≤ (gT S a 1) ∧ (gT S a 1) ≤ 4) ∧ 1 ≤ (gT S a 2) ∧ (gT S a 2) ≤ 4 := Decidable.byContradiction fun q => c_10 (g_if0.mpr q)
    refine px (fun _ => pm_iconst (v := 1) (pc := 355) d_Mo_shape_355 rfl) ?_
    refine px (fun _ => pm_goto (tgt := 360) (pc := 356) d_Mo_shape_356 (by decide)) ?_
    exact pxr (pm_iret (pc := 360) d_Mo_shape_360 rfl rfl) (m_PX_y H9 (F9) (by exact g_sh_y (by first | omega | assumption)))
set_option maxHeartbeats 1000000 in
set_option maxRecDepth 20000 in
theorem sh_7_1 {l : Launch} {G : pm_G} {fi : Bool} {h : pm_H} {S : gS} {T : mS} {n a o9 : Nat}  (hl : l.stackTraces = false) (H : mH T h) (hn : n < 14) (hop : mA T 6 n = 7) (ea : mQ T 12 (n * 3) = nI a) (ha : a < 20) (ta : mTb S T a) (ra : g_rng S a) (ho : mA T 7 n = o9) (ho9 : o9 < 20) (hp : mQ T 8 n = 1) : pm_Cn l G fi fi 0 0 M_Mo_shape [.ref 95, .int (nI n)] h (m_PX T o9 h (g_sh 1 (gT S a 1) (gT S a 2))) := by
  refine pm_Cn.of hl (by decide) (Nat.le_of_ble_eq_true rfl) ?_
  obtain ⟨r1, r2, r3, r4, r5⟩ := id ra
  refine sh_pre1 hl H hn hop ea ha ta ra (by decide) (by decide) ?_
  refine px (fun _ => pm_iload_n (pc := 131) d_Mo_shape_131 rfl) ?_
  refine px (fun _ => pm_iconst (v := 4) (pc := 132) d_Mo_shape_132 rfl) ?_
  refine pxb (fun _ => pm_icmp_lt (pc := 133) (tgt := 142) d_Mo_shape_133 (by decide)) (fun c_1 => absurd c_1 (by decide)) (fun c_1 => ?_)
  refine px (fun _ => pm_iload_n (pc := 136) d_Mo_shape_136 rfl) ?_
  refine px (fun _ => pm_bipush (v := 8) (pc := 137) d_Mo_shape_137 rfl) ?_
  refine pxn (fun _ => pm_icmp_ne (pc := 139) (tgt := 213) d_Mo_shape_139 (by decide)) (fun c_2 => ?_) (fun c_2 => absurd c_2 (by decide))
  refine px (fun _ => pm_iload_n (pc := 213) d_Mo_shape_213 rfl) ?_
  refine px (fun _ => pm_iconst (v := 4) (pc := 214) d_Mo_shape_214 rfl) ?_
  refine pxn (fun _ => pm_icmp_ne (pc := 215) (tgt := 259) d_Mo_shape_215 (by decide)) (fun c_3 => ?_) (fun c_3 => absurd c_3 (by decide))
  refine px (fun _ => pm_iload_n (pc := 259) d_Mo_shape_259 rfl) ?_
  refine px (fun _ => pm_iconst (v := 5) (pc := 260) d_Mo_shape_260 rfl) ?_
  refine pxb (fun _ => pm_icmp_eq (pc := 261) (tgt := 270) d_Mo_shape_261 (by decide)) (fun c_4 => absurd c_4 (by decide)) (fun c_4 => ?_)
  refine px (fun _ => pm_iload_n (pc := 264) d_Mo_shape_264 rfl) ?_
  refine px (fun _ => pm_bipush (v := 18) (pc := 265) d_Mo_shape_265 rfl) ?_
  refine pxn (fun _ => pm_icmp_ne (pc := 267) (tgt := 294) d_Mo_shape_267 (by decide)) (fun c_5 => ?_) (fun c_5 => absurd c_5 (by decide))
  refine px (fun _ => pm_iload_n (pc := 294) d_Mo_shape_294 rfl) ?_
  refine px (fun _ => pm_bipush (v := 6) (pc := 295) d_Mo_shape_295 rfl) ?_
  refine pxn (fun _ => pm_icmp_ne (pc := 297) (tgt := 316) d_Mo_shape_297 (by decide)) (fun c_6 => ?_) (fun c_6 => absurd c_6 (by decide))
  refine px (fun _ => pm_iload_n (pc := 316) d_Mo_shape_316 rfl) ?_
  refine px (fun _ => pm_bipush (v := 7) (pc := 317) d_Mo_shape_317 rfl) ?_
  refine pxn (fun _ => pm_icmp_ne (pc := 319) (tgt := 361) d_Mo_shape_319 (by decide)) (fun c_7 => absurd (by decide) c_7) (fun c_7 => ?_)
  refine px (fun _ => pm_aload_n (pc := 322) d_Mo_shape_322 rfl) ?_
  refine px (fun _ => pm_aload_n (pc := 323) d_Mo_shape_323 rfl) ?_
  refine px (fun _ => pm_getf fl_Mo_35 (pc := 324) d_Mo_shape_324 H.1 rfl) ?_
  refine px (fun _ => pm_iload_n (pc := 327) d_Mo_shape_327 rfl) ?_
  refine px (fun _ => pm_iald (j := n) (pc := 328) d_Mo_shape_328 H.2.2.2.2.2.2.2.2.2.1 (rfl) (hn) (by decide)) ?_
  rw [hp]
  refine px (fun _ => pm_iconst (v := 0) (pc := 329) d_Mo_shape_329 rfl) ?_
  refine px (fun _ => pm_iconst (v := 1) (pc := 330) d_Mo_shape_330 rfl) ?_
  refine px (fun _ => k_Mo_shape_331 (kc1 := 0) (ks1 := 0) (kc := 0) (ks := 0) (av := [.int (1), .int (0), .int (1)]) (st := []) H.1 (m_out_in hl H (by decide) (by decide)) rfl rfl (Nat.le_of_ble_eq_true rfl)) ?_
  refine pxn (fun _ => pm_if_ne (pc := 334) (tgt := 359) d_Mo_shape_334 (by decide)) (fun c_8 => absurd (by decide) c_8) (fun c_8 => ?_)
  refine px (fun _ => pm_aload_n (pc := 337) d_Mo_shape_337 rfl) ?_
  refine px (fun _ => pm_iload_n (pc := 338) d_Mo_shape_338 rfl) ?_
  refine px (fun _ => pm_aload_n (pc := 339) d_Mo_shape_339 rfl) ?_
  refine px (fun _ => pm_getf fl_Mo_35 (pc := 340) d_Mo_shape_340 H.1 rfl) ?_
  refine px (fun _ => pm_iload_n (pc := 343) d_Mo_shape_343 rfl) ?_
  refine px (fun _ => pm_iald (j := n) (pc := 344) d_Mo_shape_344 H.2.2.2.2.2.2.2.2.2.1 (rfl) (hn) (by decide)) ?_
  rw [hp]
  refine px (fun _ => pm_iload (pc := 345) d_Mo_shape_345 rfl) ?_
  refine px (fun _ => pm_iload (pc := 347) d_Mo_shape_347 rfl) ?_
  obtain ⟨⟨o9, h9⟩, ⟨e9, H9, F9⟩, en9⟩ := m_give (l := l) (G := G) (fi := fi) (T := T) (t := 1) (r := (gT S a 1)) (c := (gT S a 2)) hl H hn ho ho9 (by omega) (by omega)
  dsimp only at e9 H9 F9
  subst e9
  refine px (fun _ => k_Mo_shape_349 (kc1 := 0) (ks1 := 0) (kc := 0) (ks := 0) (av := [.int (nI n), .int (1), .int (nI (gT S a 1)), .int (nI (gT S a 2))]) (st := []) H.1 (en9) rfl rfl (Nat.le_of_ble_eq_true rfl)) ?_
  refine pxb (fun _ => pm_if_eq (pc := 352) (tgt := 359) d_Mo_shape_352 (by decide)) (fun c_10 => ?_) (fun c_10 => ?_)
  · have n_c_10 : ¬ ((1 ≤ (gT S a 1) ∧ (gT S a 1) ≤ 4) ∧ 1 ≤ (gT S a 2) ∧ (gT S a 2) ≤ 4) := g_if0.mp c_10
    refine px (fun _ => pm_iconst (v := 0) (pc := 359) d_Mo_shape_359 rfl) ?_
    exact pxr (pm_iret (pc := 360) d_Mo_shape_360 rfl rfl) (m_PX_n H9 (F9) (by first | (exact g_sh_n (by first | omega | assumption))))
  · have n_c_10 : (1 ≤ (gT S a 1) ∧ (gT S a 1) ≤ 4) ∧ 1 ≤ (gT S a 2) ∧ (gT S a 2) ≤ 4 := Decidable.byContradiction fun q => c_10 (g_if0.mpr q)
    refine px (fun _ => pm_iconst (v := 1) (pc := 355) d_Mo_shape_355 rfl) ?_
    refine px (fun _ => pm_goto (tgt := 360) (pc := 356) d_Mo_shape_356 (by decide)) ?_
    exact pxr (pm_iret (pc := 360) d_Mo_shape_360 rfl rfl) (m_PX_y H9 (F9) (by exact g_sh_y (by first | omega | assumption)))
set_option maxHeartbeats 1000000 in
set_option maxRecDepth 20000 in
theorem sh_7_n {l : Launch} {G : pm_G} {fi : Bool} {h : pm_H} {S : gS} {T : mS} {n a o9 : Nat}  (hl : l.stackTraces = false) (H : mH T h) (hn : n < 14) (hop : mA T 6 n = 7) (ea : mQ T 12 (n * 3) = nI a) (ha : a < 20) (ta : mTb S T a) (ra : g_rng S a) (ho : mA T 7 n = o9) (ho9 : o9 < 20) (hp : ¬ (mQ T 8 n = 0 ∨ mQ T 8 n = 1)) : pm_Cn l G fi fi 0 0 M_Mo_shape [.ref 95, .int (nI n)] h (m_PX T o9 h (none)) := by
  refine pm_Cn.of hl (by decide) (Nat.le_of_ble_eq_true rfl) ?_
  obtain ⟨r1, r2, r3, r4, r5⟩ := id ra
  refine sh_pre1 hl H hn hop ea ha ta ra (by decide) (by decide) ?_
  refine px (fun _ => pm_iload_n (pc := 131) d_Mo_shape_131 rfl) ?_
  refine px (fun _ => pm_iconst (v := 4) (pc := 132) d_Mo_shape_132 rfl) ?_
  refine pxb (fun _ => pm_icmp_lt (pc := 133) (tgt := 142) d_Mo_shape_133 (by decide)) (fun c_1 => absurd c_1 (by decide)) (fun c_1 => ?_)
  refine px (fun _ => pm_iload_n (pc := 136) d_Mo_shape_136 rfl) ?_
  refine px (fun _ => pm_bipush (v := 8) (pc := 137) d_Mo_shape_137 rfl) ?_
  refine pxn (fun _ => pm_icmp_ne (pc := 139) (tgt := 213) d_Mo_shape_139 (by decide)) (fun c_2 => ?_) (fun c_2 => absurd c_2 (by decide))
  refine px (fun _ => pm_iload_n (pc := 213) d_Mo_shape_213 rfl) ?_
  refine px (fun _ => pm_iconst (v := 4) (pc := 214) d_Mo_shape_214 rfl) ?_
  refine pxn (fun _ => pm_icmp_ne (pc := 215) (tgt := 259) d_Mo_shape_215 (by decide)) (fun c_3 => ?_) (fun c_3 => absurd c_3 (by decide))
  refine px (fun _ => pm_iload_n (pc := 259) d_Mo_shape_259 rfl) ?_
  refine px (fun _ => pm_iconst (v := 5) (pc := 260) d_Mo_shape_260 rfl) ?_
  refine pxb (fun _ => pm_icmp_eq (pc := 261) (tgt := 270) d_Mo_shape_261 (by decide)) (fun c_4 => absurd c_4 (by decide)) (fun c_4 => ?_)
  refine px (fun _ => pm_iload_n (pc := 264) d_Mo_shape_264 rfl) ?_
  refine px (fun _ => pm_bipush (v := 18) (pc := 265) d_Mo_shape_265 rfl) ?_
  refine pxn (fun _ => pm_icmp_ne (pc := 267) (tgt := 294) d_Mo_shape_267 (by decide)) (fun c_5 => ?_) (fun c_5 => absurd c_5 (by decide))
  refine px (fun _ => pm_iload_n (pc := 294) d_Mo_shape_294 rfl) ?_
  refine px (fun _ => pm_bipush (v := 6) (pc := 295) d_Mo_shape_295 rfl) ?_
  refine pxn (fun _ => pm_icmp_ne (pc := 297) (tgt := 316) d_Mo_shape_297 (by decide)) (fun c_6 => ?_) (fun c_6 => absurd c_6 (by decide))
  refine px (fun _ => pm_iload_n (pc := 316) d_Mo_shape_316 rfl) ?_
  refine px (fun _ => pm_bipush (v := 7) (pc := 317) d_Mo_shape_317 rfl) ?_
  refine pxn (fun _ => pm_icmp_ne (pc := 319) (tgt := 361) d_Mo_shape_319 (by decide)) (fun c_7 => absurd (by decide) c_7) (fun c_7 => ?_)
  refine px (fun _ => pm_aload_n (pc := 322) d_Mo_shape_322 rfl) ?_
  refine px (fun _ => pm_aload_n (pc := 323) d_Mo_shape_323 rfl) ?_
  refine px (fun _ => pm_getf fl_Mo_35 (pc := 324) d_Mo_shape_324 H.1 rfl) ?_
  refine px (fun _ => pm_iload_n (pc := 327) d_Mo_shape_327 rfl) ?_
  refine px (fun _ => pm_iald (j := n) (pc := 328) d_Mo_shape_328 H.2.2.2.2.2.2.2.2.2.1 (rfl) (hn) (by decide)) ?_
  refine px (fun _ => pm_iconst (v := 0) (pc := 329) d_Mo_shape_329 rfl) ?_
  refine px (fun _ => pm_iconst (v := 1) (pc := 330) d_Mo_shape_330 rfl) ?_
  refine px (fun _ => k_Mo_shape_331 (kc1 := 0) (ks1 := 0) (kc := 0) (ks := 0) (av := [.int ((mQ T 8) (n)), .int (0), .int (1)]) (st := []) H.1 (m_out_out hl H (fun q => hp (g_ty01 q))) rfl rfl (Nat.le_of_ble_eq_true rfl)) ?_
  refine pxn (fun _ => pm_if_ne (pc := 334) (tgt := 359) d_Mo_shape_334 (by decide)) (fun c_8 => ?_) (fun c_8 => absurd c_8 (by decide))
  refine px (fun _ => pm_iconst (v := 0) (pc := 359) d_Mo_shape_359 rfl) ?_
  exact pxr (pm_iret (pc := 360) d_Mo_shape_360 rfl rfl) (m_PX_0 H (mFr.rf _) (rfl))
set_option maxHeartbeats 1000000 in
set_option maxRecDepth 20000 in
theorem sh_9 {l : Launch} {G : pm_G} {fi : Bool} {h : pm_H} {S : gS} {T : mS} {n a b c o9 : Nat}  (hl : l.stackTraces = false) (H : mH T h) (hn : n < 14) (hop : mA T 6 n = 9) (ea : mQ T 12 (n * 3) = nI a) (ha : a < 20) (ta : mTb S T a) (ra : g_rng S a) (eb : mQ T 12 (n * 3 + 1) = nI b) (hb : b < 20) (tb : mTb S T b) (rb : g_rng S b) (ec : mQ T 12 (n * 3 + 2) = nI c) (hc : c < 20) (tc : mTb S T c) (rc : g_rng S c) (ho : mA T 7 n = o9) (ho9 : o9 < 20)  : pm_Cn l G fi fi 0 0 M_Mo_shape [.ref 95, .int (nI n)] h (m_PX T o9 h (if gT S c 0 = 1 ∧ gT S a 0 = gT S b 0 then (if (gT S a 1 = gT S b 1 ∨ gT S a 1 = 1 ∨ gT S b 1 = 1) ∧ (gT S a 2 = gT S b 2 ∨ gT S a 2 = 1 ∨ gT S b 2 = 1) then (if (max (gT S a 1) (gT S b 1) = gT S c 1 ∨ max (gT S a 1) (gT S b 1) = 1 ∨ gT S c 1 = 1) ∧ (max (gT S a 2) (gT S b 2) = gT S c 2 ∨ max (gT S a 2) (gT S b 2) = 1 ∨ gT S c 2 = 1) then g_sh (gT S a 0) (max (max (gT S a 1) (gT S b 1)) (gT S c 1)) (max (max (gT S a 2) (gT S b 2)) (gT S c 2)) else none) else none) else none)) := by
  refine pm_Cn.of hl (by decide) (Nat.le_of_ble_eq_true rfl) ?_
  obtain ⟨r1, r2, r3, r4, r5⟩ := id ra
  obtain ⟨s1, s2, s3, s4, s5⟩ := id rb
  obtain ⟨q1, q2, q3, q4, q5⟩ := id rc
  refine sh_pre3 hl H hn hop ea ha ta ra eb hb tb rb ec hc tc rc (by decide) (by decide) ?_
  refine px (fun _ => pm_iload_n (pc := 131) d_Mo_shape_131 rfl) ?_
  refine px (fun _ => pm_iconst (v := 4) (pc := 132) d_Mo_shape_132 rfl) ?_
  refine pxb (fun _ => pm_icmp_lt (pc := 133) (tgt := 142) d_Mo_shape_133 (by decide)) (fun c_1 => absurd c_1 (by decide)) (fun c_1 => ?_)
  refine px (fun _ => pm_iload_n (pc := 136) d_Mo_shape_136 rfl) ?_
  refine px (fun _ => pm_bipush (v := 8) (pc := 137) d_Mo_shape_137 rfl) ?_
  refine pxn (fun _ => pm_icmp_ne (pc := 139) (tgt := 213) d_Mo_shape_139 (by decide)) (fun c_2 => ?_) (fun c_2 => absurd c_2 (by decide))
  refine px (fun _ => pm_iload_n (pc := 213) d_Mo_shape_213 rfl) ?_
  refine px (fun _ => pm_iconst (v := 4) (pc := 214) d_Mo_shape_214 rfl) ?_
  refine pxn (fun _ => pm_icmp_ne (pc := 215) (tgt := 259) d_Mo_shape_215 (by decide)) (fun c_3 => ?_) (fun c_3 => absurd c_3 (by decide))
  refine px (fun _ => pm_iload_n (pc := 259) d_Mo_shape_259 rfl) ?_
  refine px (fun _ => pm_iconst (v := 5) (pc := 260) d_Mo_shape_260 rfl) ?_
  refine pxb (fun _ => pm_icmp_eq (pc := 261) (tgt := 270) d_Mo_shape_261 (by decide)) (fun c_4 => absurd c_4 (by decide)) (fun c_4 => ?_)
  refine px (fun _ => pm_iload_n (pc := 264) d_Mo_shape_264 rfl) ?_
  refine px (fun _ => pm_bipush (v := 18) (pc := 265) d_Mo_shape_265 rfl) ?_
  refine pxn (fun _ => pm_icmp_ne (pc := 267) (tgt := 294) d_Mo_shape_267 (by decide)) (fun c_5 => ?_) (fun c_5 => absurd c_5 (by decide))
  refine px (fun _ => pm_iload_n (pc := 294) d_Mo_shape_294 rfl) ?_
  refine px (fun _ => pm_bipush (v := 6) (pc := 295) d_Mo_shape_295 rfl) ?_
  refine pxn (fun _ => pm_icmp_ne (pc := 297) (tgt := 316) d_Mo_shape_297 (by decide)) (fun c_6 => ?_) (fun c_6 => absurd c_6 (by decide))
  refine px (fun _ => pm_iload_n (pc := 316) d_Mo_shape_316 rfl) ?_
  refine px (fun _ => pm_bipush (v := 7) (pc := 317) d_Mo_shape_317 rfl) ?_
  refine pxn (fun _ => pm_icmp_ne (pc := 319) (tgt := 361) d_Mo_shape_319 (by decide)) (fun c_7 => ?_) (fun c_7 => absurd c_7 (by decide))
  refine px (fun _ => pm_iload_n (pc := 361) d_Mo_shape_361 rfl) ?_
  refine px (fun _ => pm_bipush (v := 9) (pc := 362) d_Mo_shape_362 rfl) ?_
  refine pxn (fun _ => pm_icmp_ne (pc := 364) (tgt := 503) d_Mo_shape_364 (by decide)) (fun c_8 => absurd (by decide) c_8) (fun c_8 => ?_)
  refine px (fun _ => pm_aload_n (pc := 367) d_Mo_shape_367 rfl) ?_
  refine px (fun _ => pm_getf fl_Mo_13 (pc := 368) d_Mo_shape_368 H.1 rfl) ?_
  refine px (fun _ => pm_iload (pc := 371) d_Mo_shape_371 rfl) ?_
  refine px (fun _ => pm_iald (j := c) (pc := 373) d_Mo_shape_373 H.2.2.1 (rfl) (hc) (by decide)) ?_
  rw [tc.1]
  refine px (fun _ => pm_iconst (v := 1) (pc := 374) d_Mo_shape_374 rfl) ?_
  refine pxn (fun _ => pm_icmp_ne (pc := 375) (tgt := 393) d_Mo_shape_375 (by decide)) (fun c_9 => ?_) (fun c_9 => ?_)
  · have n_c_9 : ¬ ((gT S c 0) = 1) := fun zq => c_9 ((nI_eq (a := (gT S c 0)) (b := 1) (by omega) (by omega)).mpr zq)
    refine px (fun _ => pm_iconst (v := 0) (pc := 393) d_Mo_shape_393 rfl) ?_
    exact pxr (pm_iret (pc := 394) d_Mo_shape_394 rfl rfl) (m_PX_0 H (mFr.rf _) (by first | (exact if_neg (by first | omega | assumption)) | (rw [if_pos (by first | omega | assumption)]; exact if_neg (by first | omega | assumption)) | (rw [if_pos (by first | omega | assumption), if_pos (by first | omega | assumption)]; exact if_neg (by first | omega | assumption)) | (rw [if_pos (by first | omega | assumption), if_pos (by first | omega | assumption), if_pos (by first | omega | assumption)]; exact g_sh_n (by first | omega | assumption))))
  · have n_c_9 : (gT S c 0) = 1 := (nI_eq (a := (gT S c 0)) (b := 1) (by omega) (by omega)).mp c_9
    refine px (fun _ => pm_iload (pc := 378) d_Mo_shape_378 rfl) ?_
    refine pxb (fun _ => pm_if_eq (pc := 380) (tgt := 393) d_Mo_shape_380 (by decide)) (fun c_10 => ?_) (fun c_10 => ?_)
    · have n_c_10 : ¬ (gT S a 0 = gT S b 0) := g_if0.mp c_10
      refine px (fun _ => pm_iconst (v := 0) (pc := 393) d_Mo_shape_393 rfl) ?_
      exact pxr (pm_iret (pc := 394) d_Mo_shape_394 rfl rfl) (m_PX_0 H (mFr.rf _) (by first | (exact if_neg (by first | omega | assumption)) | (rw [if_pos (by first | omega | assumption)]; exact if_neg (by first | omega | assumption)) | (rw [if_pos (by first | omega | assumption), if_pos (by first | omega | assumption)]; exact if_neg (by first | omega | assumption)) | (rw [if_pos (by first | omega | assumption), if_pos (by first | omega | assumption), if_pos (by first | omega | assumption)]; exact g_sh_n (by first | omega | assumption))))
    · have n_c_10 : gT S a 0 = gT S b 0 := Decidable.byContradiction fun q => c_10 (g_if0.mpr q)
      refine px (fun _ => pm_aload_n (pc := 383) d_Mo_shape_383 rfl) ?_
      refine px (fun _ => pm_iload_n (pc := 384) d_Mo_shape_384 rfl) ?_
      refine px (fun _ => pm_iload (pc := 385) d_Mo_shape_385 rfl) ?_
      refine px (fun _ => k_Mo_shape_387 (kc1 := 0) (ks1 := 0) (kc := 0) (ks := 0) (av := [.int (nI a), .int (nI b)]) (st := []) H.1 (m_fitting hl H ha hb ta tb ra rb) rfl rfl (Nat.le_of_ble_eq_true rfl)) ?_
      refine pxn (fun _ => pm_if_ne (pc := 390) (tgt := 395) d_Mo_shape_390 (by decide)) (fun c_11 => ?_) (fun c_11 => ?_)
      · have n_c_11 : (gT S a 1 = gT S b 1 ∨ gT S a 1 = 1 ∨ gT S b 1 = 1) ∧ (gT S a 2 = gT S b 2 ∨ gT S a 2 = 1 ∨ gT S b 2 = 1) := Decidable.byContradiction fun q => c_11 (g_if0.mpr q)
        refine px (fun _ => pm_aload_n (pc := 395) d_Mo_shape_395 rfl) ?_
        refine px (fun _ => pm_iload (pc := 396) d_Mo_shape_396 rfl) ?_
        refine px (fun _ => pm_aload_n (pc := 398) d_Mo_shape_398 rfl) ?_
        refine px (fun _ => pm_getf fl_Mo_16 (pc := 399) d_Mo_shape_399 H.1 rfl) ?_
        refine px (fun _ => pm_iload (pc := 402) d_Mo_shape_402 rfl) ?_
        refine px (fun _ => pm_iald (j := b) (pc := 404) d_Mo_shape_404 H.2.2.2.1 (rfl) (hb) (by decide)) ?_
        rw [tb.2.1]
        refine px (fun _ => k_Mo_shape_405 (kc1 := 0) (ks1 := 0) (kc := 0) (ks := 0) (av := [.int (nI (gT S a 1)), .int (nI (gT S b 1))]) (st := []) H.1 (m_most hl H (by omega) (by omega)) rfl rfl (Nat.le_of_ble_eq_true rfl)) ?_
        refine px (fun _ => pm_istore (lv' := [(10, .int (nI (max (gT S a 1) (gT S b 1)))), (9, .int (nI (gT S a 2))), (8, .int (nI (gT S a 1))), (7, .int (if gT S a 0 = 0 ∧ gT S b 0 = 0 then 1 else 0)), (6, .int (if gT S a 0 = gT S b 0 then 1 else 0)), (5, .int (nI c)), (4, .int (nI b)), (3, .int (nI a)), (2, .int (9)), (0, .ref (95)), (1, .int (nI n))]) (pc := 408) d_Mo_shape_408 (by decide) rfl) ?_
        refine px (fun _ => pm_aload_n (pc := 410) d_Mo_shape_410 rfl) ?_
        refine px (fun _ => pm_iload (pc := 411) d_Mo_shape_411 rfl) ?_
        refine px (fun _ => pm_aload_n (pc := 413) d_Mo_shape_413 rfl) ?_
        refine px (fun _ => pm_getf fl_Mo_19 (pc := 414) d_Mo_shape_414 H.1 rfl) ?_
        refine px (fun _ => pm_iload (pc := 417) d_Mo_shape_417 rfl) ?_
        refine px (fun _ => pm_iald (j := b) (pc := 419) d_Mo_shape_419 H.2.2.2.2.1 (rfl) (hb) (by decide)) ?_
        rw [tb.2.2]
        refine px (fun _ => k_Mo_shape_420 (kc1 := 0) (ks1 := 0) (kc := 0) (ks := 0) (av := [.int (nI (gT S a 2)), .int (nI (gT S b 2))]) (st := []) H.1 (m_most hl H (by omega) (by omega)) rfl rfl (Nat.le_of_ble_eq_true rfl)) ?_
        refine px (fun _ => pm_istore (lv' := [(11, .int (nI (max (gT S a 2) (gT S b 2)))), (10, .int (nI (max (gT S a 1) (gT S b 1)))), (9, .int (nI (gT S a 2))), (8, .int (nI (gT S a 1))), (7, .int (if gT S a 0 = 0 ∧ gT S b 0 = 0 then 1 else 0)), (6, .int (if gT S a 0 = gT S b 0 then 1 else 0)), (5, .int (nI c)), (4, .int (nI b)), (3, .int (nI a)), (2, .int (9)), (0, .ref (95)), (1, .int (nI n))]) (pc := 423) d_Mo_shape_423 (by decide) rfl) ?_
        refine px (fun _ => pm_aload_n (pc := 425) d_Mo_shape_425 rfl) ?_
        refine px (fun _ => pm_iload (pc := 426) d_Mo_shape_426 rfl) ?_
        refine px (fun _ => pm_aload_n (pc := 428) d_Mo_shape_428 rfl) ?_
        refine px (fun _ => pm_getf fl_Mo_16 (pc := 429) d_Mo_shape_429 H.1 rfl) ?_
        refine px (fun _ => pm_iload (pc := 432) d_Mo_shape_432 rfl) ?_
        refine px (fun _ => pm_iald (j := c) (pc := 434) d_Mo_shape_434 H.2.2.2.1 (rfl) (hc) (by decide)) ?_
        rw [tc.2.1]
        refine px (fun _ => k_Mo_shape_435 (kc1 := 0) (ks1 := 0) (kc := 0) (ks := 0) (av := [.int (nI (max (gT S a 1) (gT S b 1))), .int (nI (gT S c 1))]) (st := []) H.1 (m_near hl H (by omega) (by omega)) rfl rfl (Nat.le_of_ble_eq_true rfl)) ?_
        refine pxb (fun _ => pm_if_eq (pc := 438) (tgt := 501) d_Mo_shape_438 (by decide)) (fun c_12 => ?_) (fun c_12 => ?_)
        · have n_c_12 : ¬ (((max (gT S a 1) (gT S b 1)) = (gT S c 1) ∨ (max (gT S a 1) (gT S b 1)) = 1 ∨ (gT S c 1) = 1)) := g_if0.mp c_12
          refine px (fun _ => pm_iconst (v := 0) (pc := 501) d_Mo_shape_501 rfl) ?_
          exact pxr (pm_iret (pc := 502) d_Mo_shape_502 rfl rfl) (m_PX_0 H (mFr.rf _) (by first | (exact if_neg (by first | omega | assumption)) | (rw [if_pos (by first | omega | assumption)]; exact if_neg (by first | omega | assumption)) | (rw [if_pos (by first | omega | assumption), if_pos (by first | omega | assumption)]; exact if_neg (by first | omega | assumption)) | (rw [if_pos (by first | omega | assumption), if_pos (by first | omega | assumption), if_pos (by first | omega | assumption)]; exact g_sh_n (by first | omega | assumption))))
        · have n_c_12 : ((max (gT S a 1) (gT S b 1)) = (gT S c 1) ∨ (max (gT S a 1) (gT S b 1)) = 1 ∨ (gT S c 1) = 1) := Decidable.byContradiction fun q => c_12 (g_if0.mpr q)
          refine px (fun _ => pm_aload_n (pc := 441) d_Mo_shape_441 rfl) ?_
          refine px (fun _ => pm_iload (pc := 442) d_Mo_shape_442 rfl) ?_
          refine px (fun _ => pm_aload_n (pc := 444) d_Mo_shape_444 rfl) ?_
          refine px (fun _ => pm_getf fl_Mo_19 (pc := 445) d_Mo_shape_445 H.1 rfl) ?_
          refine px (fun _ => pm_iload (pc := 448) d_Mo_shape_448 rfl) ?_
          refine px (fun _ => pm_iald (j := c) (pc := 450) d_Mo_shape_450 H.2.2.2.2.1 (rfl) (hc) (by decide)) ?_
          rw [tc.2.2]
          refine px (fun _ => k_Mo_shape_451 (kc1 := 0) (ks1 := 0) (kc := 0) (ks := 0) (av := [.int (nI (max (gT S a 2) (gT S b 2))), .int (nI (gT S c 2))]) (st := []) H.1 (m_near hl H (by omega) (by omega)) rfl rfl (Nat.le_of_ble_eq_true rfl)) ?_
          refine pxb (fun _ => pm_if_eq (pc := 454) (tgt := 501) d_Mo_shape_454 (by decide)) (fun c_13 => ?_) (fun c_13 => ?_)
          · have n_c_13 : ¬ (((max (gT S a 2) (gT S b 2)) = (gT S c 2) ∨ (max (gT S a 2) (gT S b 2)) = 1 ∨ (gT S c 2) = 1)) := g_if0.mp c_13
            refine px (fun _ => pm_iconst (v := 0) (pc := 501) d_Mo_shape_501 rfl) ?_
            exact pxr (pm_iret (pc := 502) d_Mo_shape_502 rfl rfl) (m_PX_0 H (mFr.rf _) (by first | (exact if_neg (by first | omega | assumption)) | (rw [if_pos (by first | omega | assumption)]; exact if_neg (by first | omega | assumption)) | (rw [if_pos (by first | omega | assumption), if_pos (by first | omega | assumption)]; exact if_neg (by first | omega | assumption)) | (rw [if_pos (by first | omega | assumption), if_pos (by first | omega | assumption), if_pos (by first | omega | assumption)]; exact g_sh_n (by first | omega | assumption))))
          · have n_c_13 : ((max (gT S a 2) (gT S b 2)) = (gT S c 2) ∨ (max (gT S a 2) (gT S b 2)) = 1 ∨ (gT S c 2) = 1) := Decidable.byContradiction fun q => c_13 (g_if0.mpr q)
            refine px (fun _ => pm_aload_n (pc := 457) d_Mo_shape_457 rfl) ?_
            refine px (fun _ => pm_iload_n (pc := 458) d_Mo_shape_458 rfl) ?_
            refine px (fun _ => pm_aload_n (pc := 459) d_Mo_shape_459 rfl) ?_
            refine px (fun _ => pm_getf fl_Mo_13 (pc := 460) d_Mo_shape_460 H.1 rfl) ?_
            refine px (fun _ => pm_iload_n (pc := 463) d_Mo_shape_463 rfl) ?_
            refine px (fun _ => pm_iald (j := a) (pc := 464) d_Mo_shape_464 H.2.2.1 (rfl) (ha) (by decide)) ?_
            rw [ta.1]
            refine px (fun _ => pm_aload_n (pc := 465) d_Mo_shape_465 rfl) ?_
            refine px (fun _ => pm_iload (pc := 466) d_Mo_shape_466 rfl) ?_
            refine px (fun _ => pm_aload_n (pc := 468) d_Mo_shape_468 rfl) ?_
            refine px (fun _ => pm_getf fl_Mo_16 (pc := 469) d_Mo_shape_469 H.1 rfl) ?_
            refine px (fun _ => pm_iload (pc := 472) d_Mo_shape_472 rfl) ?_
            refine px (fun _ => pm_iald (j := c) (pc := 474) d_Mo_shape_474 H.2.2.2.1 (rfl) (hc) (by decide)) ?_
            rw [tc.2.1]
            refine px (fun _ => k_Mo_shape_475 (kc1 := 0) (ks1 := 0) (kc := 0) (ks := 0) (av := [.int (nI (max (gT S a 1) (gT S b 1))), .int (nI (gT S c 1))]) (st := [.int (nI (gT S a 0)), .int (nI n), .ref (95)]) H.1 (m_most hl H (by omega) (by omega)) rfl rfl (Nat.le_of_ble_eq_true rfl)) ?_
            refine px (fun _ => pm_aload_n (pc := 478) d_Mo_shape_478 rfl) ?_
            refine px (fun _ => pm_iload (pc := 479) d_Mo_shape_479 rfl) ?_
            refine px (fun _ => pm_aload_n (pc := 481) d_Mo_shape_481 rfl) ?_
            refine px (fun _ => pm_getf fl_Mo_19 (pc := 482) d_Mo_shape_482 H.1 rfl) ?_
            refine px (fun _ => pm_iload (pc := 485) d_Mo_shape_485 rfl) ?_
            refine px (fun _ => pm_iald (j := c) (pc := 487) d_Mo_shape_487 H.2.2.2.2.1 (rfl) (hc) (by decide)) ?_
            rw [tc.2.2]
            refine px (fun _ => k_Mo_shape_488 (kc1 := 0) (ks1 := 0) (kc := 0) (ks := 0) (av := [.int (nI (max (gT S a 2) (gT S b 2))), .int (nI (gT S c 2))]) (st := [.int (nI (max (max (gT S a 1) (gT S b 1)) (gT S c 1))), .int (nI (gT S a 0)), .int (nI n), .ref (95)]) H.1 (m_most hl H (by omega) (by omega)) rfl rfl (Nat.le_of_ble_eq_true rfl)) ?_
            obtain ⟨⟨o14, h14⟩, ⟨e14, H14, F14⟩, en14⟩ := m_give (l := l) (G := G) (fi := fi) (T := T) (t := (gT S a 0)) (r := (max (max (gT S a 1) (gT S b 1)) (gT S c 1))) (c := (max (max (gT S a 2) (gT S b 2)) (gT S c 2))) hl H hn ho ho9 (by omega) (by omega)
            dsimp only at e14 H14 F14
            subst e14
            refine px (fun _ => k_Mo_shape_491 (kc1 := 0) (ks1 := 0) (kc := 0) (ks := 0) (av := [.int (nI n), .int (nI (gT S a 0)), .int (nI (max (max (gT S a 1) (gT S b 1)) (gT S c 1))), .int (nI (max (max (gT S a 2) (gT S b 2)) (gT S c 2)))]) (st := []) H.1 (en14) rfl rfl (Nat.le_of_ble_eq_true rfl)) ?_
            refine pxb (fun _ => pm_if_eq (pc := 494) (tgt := 501) d_Mo_shape_494 (by decide)) (fun c_15 => ?_) (fun c_15 => ?_)
            · have n_c_15 : ¬ ((1 ≤ (max (max (gT S a 1) (gT S b 1)) (gT S c 1)) ∧ (max (max (gT S a 1) (gT S b 1)) (gT S c 1)) ≤ 4) ∧ 1 ≤ (max (max (gT S a 2) (gT S b 2)) (gT S c 2)) ∧ (max (max (gT S a 2) (gT S b 2)) (gT S c 2)) ≤ 4) := g_if0.mp c_15
              refine px (fun _ => pm_iconst (v := 0) (pc := 501) d_Mo_shape_501 rfl) ?_
              exact pxr (pm_iret (pc := 502) d_Mo_shape_502 rfl rfl) (m_PX_n H14 (F14) (by first | (exact if_neg (by first | omega | assumption)) | (rw [if_pos (by first | omega | assumption)]; exact if_neg (by first | omega | assumption)) | (rw [if_pos (by first | omega | assumption), if_pos (by first | omega | assumption)]; exact if_neg (by first | omega | assumption)) | (rw [if_pos (by first | omega | assumption), if_pos (by first | omega | assumption), if_pos (by first | omega | assumption)]; exact g_sh_n (by first | omega | assumption))))
            · have n_c_15 : (1 ≤ (max (max (gT S a 1) (gT S b 1)) (gT S c 1)) ∧ (max (max (gT S a 1) (gT S b 1)) (gT S c 1)) ≤ 4) ∧ 1 ≤ (max (max (gT S a 2) (gT S b 2)) (gT S c 2)) ∧ (max (max (gT S a 2) (gT S b 2)) (gT S c 2)) ≤ 4 := Decidable.byContradiction fun q => c_15 (g_if0.mpr q)
              refine px (fun _ => pm_iconst (v := 1) (pc := 497) d_Mo_shape_497 rfl) ?_
              refine px (fun _ => pm_goto (tgt := 502) (pc := 498) d_Mo_shape_498 (by decide)) ?_
              exact pxr (pm_iret (pc := 502) d_Mo_shape_502 rfl rfl) (m_PX_y H14 (F14) (by rw [if_pos (by first | omega | assumption), if_pos (by first | omega | assumption), if_pos (by first | omega | assumption)]; exact g_sh_y (by first | omega | assumption)))
      · have n_c_11 : ¬ ((gT S a 1 = gT S b 1 ∨ gT S a 1 = 1 ∨ gT S b 1 = 1) ∧ (gT S a 2 = gT S b 2 ∨ gT S a 2 = 1 ∨ gT S b 2 = 1)) := g_if0.mp c_11
        refine px (fun _ => pm_iconst (v := 0) (pc := 393) d_Mo_shape_393 rfl) ?_
        exact pxr (pm_iret (pc := 394) d_Mo_shape_394 rfl rfl) (m_PX_0 H (mFr.rf _) (by first | (exact if_neg (by first | omega | assumption)) | (rw [if_pos (by first | omega | assumption)]; exact if_neg (by first | omega | assumption)) | (rw [if_pos (by first | omega | assumption), if_pos (by first | omega | assumption)]; exact if_neg (by first | omega | assumption)) | (rw [if_pos (by first | omega | assumption), if_pos (by first | omega | assumption), if_pos (by first | omega | assumption)]; exact g_sh_n (by first | omega | assumption))))
set_option maxHeartbeats 1000000 in
set_option maxRecDepth 20000 in
theorem sh_10_0 {l : Launch} {G : pm_G} {fi : Bool} {h : pm_H} {S : gS} {T : mS} {n a o9 : Nat}  (hl : l.stackTraces = false) (H : mH T h) (hn : n < 14) (hop : mA T 6 n = 10) (ea : mQ T 12 (n * 3) = nI a) (ha : a < 20) (ta : mTb S T a) (ra : g_rng S a) (ho : mA T 7 n = o9) (ho9 : o9 < 20) (hp : mQ T 8 n = 0) : pm_Cn l G fi fi 0 0 M_Mo_shape [.ref 95, .int (nI n)] h (m_PX T o9 h (g_sh (gT S a 0) 1 (gT S a 2))) := by
  refine pm_Cn.of hl (by decide) (Nat.le_of_ble_eq_true rfl) ?_
  obtain ⟨r1, r2, r3, r4, r5⟩ := id ra
  refine sh_pre1 hl H hn hop ea ha ta ra (by decide) (by decide) ?_
  refine px (fun _ => pm_iload_n (pc := 131) d_Mo_shape_131 rfl) ?_
  refine px (fun _ => pm_iconst (v := 4) (pc := 132) d_Mo_shape_132 rfl) ?_
  refine pxb (fun _ => pm_icmp_lt (pc := 133) (tgt := 142) d_Mo_shape_133 (by decide)) (fun c_1 => absurd c_1 (by decide)) (fun c_1 => ?_)
  refine px (fun _ => pm_iload_n (pc := 136) d_Mo_shape_136 rfl) ?_
  refine px (fun _ => pm_bipush (v := 8) (pc := 137) d_Mo_shape_137 rfl) ?_
  refine pxn (fun _ => pm_icmp_ne (pc := 139) (tgt := 213) d_Mo_shape_139 (by decide)) (fun c_2 => ?_) (fun c_2 => absurd c_2 (by decide))
  refine px (fun _ => pm_iload_n (pc := 213) d_Mo_shape_213 rfl) ?_
  refine px (fun _ => pm_iconst (v := 4) (pc := 214) d_Mo_shape_214 rfl) ?_
  refine pxn (fun _ => pm_icmp_ne (pc := 215) (tgt := 259) d_Mo_shape_215 (by decide)) (fun c_3 => ?_) (fun c_3 => absurd c_3 (by decide))
  refine px (fun _ => pm_iload_n (pc := 259) d_Mo_shape_259 rfl) ?_
  refine px (fun _ => pm_iconst (v := 5) (pc := 260) d_Mo_shape_260 rfl) ?_
  refine pxb (fun _ => pm_icmp_eq (pc := 261) (tgt := 270) d_Mo_shape_261 (by decide)) (fun c_4 => absurd c_4 (by decide)) (fun c_4 => ?_)
  refine px (fun _ => pm_iload_n (pc := 264) d_Mo_shape_264 rfl) ?_
  refine px (fun _ => pm_bipush (v := 18) (pc := 265) d_Mo_shape_265 rfl) ?_
  refine pxn (fun _ => pm_icmp_ne (pc := 267) (tgt := 294) d_Mo_shape_267 (by decide)) (fun c_5 => ?_) (fun c_5 => absurd c_5 (by decide))
  refine px (fun _ => pm_iload_n (pc := 294) d_Mo_shape_294 rfl) ?_
  refine px (fun _ => pm_bipush (v := 6) (pc := 295) d_Mo_shape_295 rfl) ?_
  refine pxn (fun _ => pm_icmp_ne (pc := 297) (tgt := 316) d_Mo_shape_297 (by decide)) (fun c_6 => ?_) (fun c_6 => absurd c_6 (by decide))
  refine px (fun _ => pm_iload_n (pc := 316) d_Mo_shape_316 rfl) ?_
  refine px (fun _ => pm_bipush (v := 7) (pc := 317) d_Mo_shape_317 rfl) ?_
  refine pxn (fun _ => pm_icmp_ne (pc := 319) (tgt := 361) d_Mo_shape_319 (by decide)) (fun c_7 => ?_) (fun c_7 => absurd c_7 (by decide))
  refine px (fun _ => pm_iload_n (pc := 361) d_Mo_shape_361 rfl) ?_
  refine px (fun _ => pm_bipush (v := 9) (pc := 362) d_Mo_shape_362 rfl) ?_
  refine pxn (fun _ => pm_icmp_ne (pc := 364) (tgt := 503) d_Mo_shape_364 (by decide)) (fun c_8 => ?_) (fun c_8 => absurd c_8 (by decide))
  refine px (fun _ => pm_iload_n (pc := 503) d_Mo_shape_503 rfl) ?_
  refine px (fun _ => pm_bipush (v := 10) (pc := 504) d_Mo_shape_504 rfl) ?_
  refine pxb (fun _ => pm_icmp_eq (pc := 506) (tgt := 515) d_Mo_shape_506 (by decide)) (fun c_9 => ?_) (fun c_9 => absurd (by decide) c_9)
  refine px (fun _ => pm_aload_n (pc := 515) d_Mo_shape_515 rfl) ?_
  refine px (fun _ => pm_aload_n (pc := 516) d_Mo_shape_516 rfl) ?_
  refine px (fun _ => pm_getf fl_Mo_35 (pc := 517) d_Mo_shape_517 H.1 rfl) ?_
  refine px (fun _ => pm_iload_n (pc := 520) d_Mo_shape_520 rfl) ?_
  refine px (fun _ => pm_iald (j := n) (pc := 521) d_Mo_shape_521 H.2.2.2.2.2.2.2.2.2.1 (rfl) (hn) (by decide)) ?_
  rw [hp]
  refine px (fun _ => pm_iconst (v := 0) (pc := 522) d_Mo_shape_522 rfl) ?_
  refine px (fun _ => pm_iconst (v := 1) (pc := 523) d_Mo_shape_523 rfl) ?_
  refine px (fun _ => k_Mo_shape_524 (kc1 := 0) (ks1 := 0) (kc := 0) (ks := 0) (av := [.int (0), .int (0), .int (1)]) (st := []) H.1 (m_out_in hl H (by decide) (by decide)) rfl rfl (Nat.le_of_ble_eq_true rfl)) ?_
  refine pxn (fun _ => pm_if_ne (pc := 527) (tgt := 578) d_Mo_shape_527 (by decide)) (fun c_10 => absurd (by decide) c_10) (fun c_10 => ?_)
  refine px (fun _ => pm_aload_n (pc := 530) d_Mo_shape_530 rfl) ?_
  refine px (fun _ => pm_iload_n (pc := 531) d_Mo_shape_531 rfl) ?_
  refine px (fun _ => pm_aload_n (pc := 532) d_Mo_shape_532 rfl) ?_
  refine px (fun _ => pm_getf fl_Mo_13 (pc := 533) d_Mo_shape_533 H.1 rfl) ?_
  refine px (fun _ => pm_iload_n (pc := 536) d_Mo_shape_536 rfl) ?_
  refine px (fun _ => pm_iald (j := a) (pc := 537) d_Mo_shape_537 H.2.2.1 (rfl) (ha) (by decide)) ?_
  rw [ta.1]
  refine px (fun _ => pm_aload_n (pc := 538) d_Mo_shape_538 rfl) ?_
  refine px (fun _ => pm_getf fl_Mo_35 (pc := 539) d_Mo_shape_539 H.1 rfl) ?_
  refine px (fun _ => pm_iload_n (pc := 542) d_Mo_shape_542 rfl) ?_
  refine px (fun _ => pm_iald (j := n) (pc := 543) d_Mo_shape_543 H.2.2.2.2.2.2.2.2.2.1 (rfl) (hn) (by decide)) ?_
  rw [hp]
  refine pxn (fun _ => pm_if_ne (pc := 544) (tgt := 551) d_Mo_shape_544 (by decide)) (fun c_11 => absurd (by decide) c_11) (fun c_11 => ?_)
  refine px (fun _ => pm_iconst (v := 1) (pc := 547) d_Mo_shape_547 rfl) ?_
  refine px (fun _ => pm_goto (tgt := 553) (pc := 548) d_Mo_shape_548 (by decide)) ?_
  refine px (fun _ => pm_aload_n (pc := 553) d_Mo_shape_553 rfl) ?_
  refine px (fun _ => pm_getf fl_Mo_35 (pc := 554) d_Mo_shape_554 H.1 rfl) ?_
  refine px (fun _ => pm_iload_n (pc := 557) d_Mo_shape_557 rfl) ?_
  refine px (fun _ => pm_iald (j := n) (pc := 558) d_Mo_shape_558 H.2.2.2.2.2.2.2.2.2.1 (rfl) (hn) (by decide)) ?_
  rw [hp]
  refine pxn (fun _ => pm_if_ne (pc := 559) (tgt := 567) d_Mo_shape_559 (by decide)) (fun c_12 => absurd (by decide) c_12) (fun c_12 => ?_)
  refine px (fun _ => pm_iload (pc := 562) d_Mo_shape_562 rfl) ?_
  refine px (fun _ => pm_goto (tgt := 568) (pc := 564) d_Mo_shape_564 (by decide)) ?_
  obtain ⟨⟨o13, h13⟩, ⟨e13, H13, F13⟩, en13⟩ := m_give (l := l) (G := G) (fi := fi) (T := T) (t := (gT S a 0)) (r := 1) (c := (gT S a 2)) hl H hn ho ho9 (by omega) (by omega)
  dsimp only at e13 H13 F13
  subst e13
  refine px (fun _ => k_Mo_shape_568 (kc1 := 0) (ks1 := 0) (kc := 0) (ks := 0) (av := [.int (nI n), .int (nI (gT S a 0)), .int (1), .int (nI (gT S a 2))]) (st := []) H.1 (en13) rfl rfl (Nat.le_of_ble_eq_true rfl)) ?_
  refine pxb (fun _ => pm_if_eq (pc := 571) (tgt := 578) d_Mo_shape_571 (by decide)) (fun c_14 => ?_) (fun c_14 => ?_)
  · have n_c_14 : ¬ ((1 ≤ 1 ∧ 1 ≤ 4) ∧ 1 ≤ (gT S a 2) ∧ (gT S a 2) ≤ 4) := g_if0.mp c_14
    refine px (fun _ => pm_iconst (v := 0) (pc := 578) d_Mo_shape_578 rfl) ?_
    exact pxr (pm_iret (pc := 579) d_Mo_shape_579 rfl rfl) (m_PX_n H13 (F13) (by first | (exact g_sh_n (by first | omega | assumption))))
  · have n_c_14 : (1 ≤ 1 ∧ 1 ≤ 4) ∧ 1 ≤ (gT S a 2) ∧ (gT S a 2) ≤ 4 := Decidable.byContradiction fun q => c_14 (g_if0.mpr q)
    refine px (fun _ => pm_iconst (v := 1) (pc := 574) d_Mo_shape_574 rfl) ?_
    refine px (fun _ => pm_goto (tgt := 579) (pc := 575) d_Mo_shape_575 (by decide)) ?_
    exact pxr (pm_iret (pc := 579) d_Mo_shape_579 rfl rfl) (m_PX_y H13 (F13) (by exact g_sh_y (by first | omega | assumption)))
set_option maxHeartbeats 1000000 in
set_option maxRecDepth 20000 in
theorem sh_10_1 {l : Launch} {G : pm_G} {fi : Bool} {h : pm_H} {S : gS} {T : mS} {n a o9 : Nat}  (hl : l.stackTraces = false) (H : mH T h) (hn : n < 14) (hop : mA T 6 n = 10) (ea : mQ T 12 (n * 3) = nI a) (ha : a < 20) (ta : mTb S T a) (ra : g_rng S a) (ho : mA T 7 n = o9) (ho9 : o9 < 20) (hp : mQ T 8 n = 1) : pm_Cn l G fi fi 0 0 M_Mo_shape [.ref 95, .int (nI n)] h (m_PX T o9 h (g_sh (gT S a 0) (gT S a 1) 1)) := by
  refine pm_Cn.of hl (by decide) (Nat.le_of_ble_eq_true rfl) ?_
  obtain ⟨r1, r2, r3, r4, r5⟩ := id ra
  refine sh_pre1 hl H hn hop ea ha ta ra (by decide) (by decide) ?_
  refine px (fun _ => pm_iload_n (pc := 131) d_Mo_shape_131 rfl) ?_
  refine px (fun _ => pm_iconst (v := 4) (pc := 132) d_Mo_shape_132 rfl) ?_
  refine pxb (fun _ => pm_icmp_lt (pc := 133) (tgt := 142) d_Mo_shape_133 (by decide)) (fun c_1 => absurd c_1 (by decide)) (fun c_1 => ?_)
  refine px (fun _ => pm_iload_n (pc := 136) d_Mo_shape_136 rfl) ?_
  refine px (fun _ => pm_bipush (v := 8) (pc := 137) d_Mo_shape_137 rfl) ?_
  refine pxn (fun _ => pm_icmp_ne (pc := 139) (tgt := 213) d_Mo_shape_139 (by decide)) (fun c_2 => ?_) (fun c_2 => absurd c_2 (by decide))
  refine px (fun _ => pm_iload_n (pc := 213) d_Mo_shape_213 rfl) ?_
  refine px (fun _ => pm_iconst (v := 4) (pc := 214) d_Mo_shape_214 rfl) ?_
  refine pxn (fun _ => pm_icmp_ne (pc := 215) (tgt := 259) d_Mo_shape_215 (by decide)) (fun c_3 => ?_) (fun c_3 => absurd c_3 (by decide))
  refine px (fun _ => pm_iload_n (pc := 259) d_Mo_shape_259 rfl) ?_
  refine px (fun _ => pm_iconst (v := 5) (pc := 260) d_Mo_shape_260 rfl) ?_
  refine pxb (fun _ => pm_icmp_eq (pc := 261) (tgt := 270) d_Mo_shape_261 (by decide)) (fun c_4 => absurd c_4 (by decide)) (fun c_4 => ?_)
  refine px (fun _ => pm_iload_n (pc := 264) d_Mo_shape_264 rfl) ?_
  refine px (fun _ => pm_bipush (v := 18) (pc := 265) d_Mo_shape_265 rfl) ?_
  refine pxn (fun _ => pm_icmp_ne (pc := 267) (tgt := 294) d_Mo_shape_267 (by decide)) (fun c_5 => ?_) (fun c_5 => absurd c_5 (by decide))
  refine px (fun _ => pm_iload_n (pc := 294) d_Mo_shape_294 rfl) ?_
  refine px (fun _ => pm_bipush (v := 6) (pc := 295) d_Mo_shape_295 rfl) ?_
  refine pxn (fun _ => pm_icmp_ne (pc := 297) (tgt := 316) d_Mo_shape_297 (by decide)) (fun c_6 => ?_) (fun c_6 => absurd c_6 (by decide))
  refine px (fun _ => pm_iload_n (pc := 316) d_Mo_shape_316 rfl) ?_
  refine px (fun _ => pm_bipush (v := 7) (pc := 317) d_Mo_shape_317 rfl) ?_
  refine pxn (fun _ => pm_icmp_ne (pc := 319) (tgt := 361) d_Mo_shape_319 (by decide)) (fun c_7 => ?_) (fun c_7 => absurd c_7 (by decide))
  refine px (fun _ => pm_iload_n (pc := 361) d_Mo_shape_361 rfl) ?_
  refine px (fun _ => pm_bipush (v := 9) (pc := 362) d_Mo_shape_362 rfl) ?_
  refine pxn (fun _ => pm_icmp_ne (pc := 364) (tgt := 503) d_Mo_shape_364 (by decide)) (fun c_8 => ?_) (fun c_8 => absurd c_8 (by decide))
  refine px (fun _ => pm_iload_n (pc := 503) d_Mo_shape_503 rfl) ?_
  refine px (fun _ => pm_bipush (v := 10) (pc := 504) d_Mo_shape_504 rfl) ?_
  refine pxb (fun _ => pm_icmp_eq (pc := 506) (tgt := 515) d_Mo_shape_506 (by decide)) (fun c_9 => ?_) (fun c_9 => absurd (by decide) c_9)
  refine px (fun _ => pm_aload_n (pc := 515) d_Mo_shape_515 rfl) ?_
  refine px (fun _ => pm_aload_n (pc := 516) d_Mo_shape_516 rfl) ?_
  refine px (fun _ => pm_getf fl_Mo_35 (pc := 517) d_Mo_shape_517 H.1 rfl) ?_
  refine px (fun _ => pm_iload_n (pc := 520) d_Mo_shape_520 rfl) ?_
  refine px (fun _ => pm_iald (j := n) (pc := 521) d_Mo_shape_521 H.2.2.2.2.2.2.2.2.2.1 (rfl) (hn) (by decide)) ?_
  rw [hp]
  refine px (fun _ => pm_iconst (v := 0) (pc := 522) d_Mo_shape_522 rfl) ?_
  refine px (fun _ => pm_iconst (v := 1) (pc := 523) d_Mo_shape_523 rfl) ?_
  refine px (fun _ => k_Mo_shape_524 (kc1 := 0) (ks1 := 0) (kc := 0) (ks := 0) (av := [.int (1), .int (0), .int (1)]) (st := []) H.1 (m_out_in hl H (by decide) (by decide)) rfl rfl (Nat.le_of_ble_eq_true rfl)) ?_
  refine pxn (fun _ => pm_if_ne (pc := 527) (tgt := 578) d_Mo_shape_527 (by decide)) (fun c_10 => absurd (by decide) c_10) (fun c_10 => ?_)
  refine px (fun _ => pm_aload_n (pc := 530) d_Mo_shape_530 rfl) ?_
  refine px (fun _ => pm_iload_n (pc := 531) d_Mo_shape_531 rfl) ?_
  refine px (fun _ => pm_aload_n (pc := 532) d_Mo_shape_532 rfl) ?_
  refine px (fun _ => pm_getf fl_Mo_13 (pc := 533) d_Mo_shape_533 H.1 rfl) ?_
  refine px (fun _ => pm_iload_n (pc := 536) d_Mo_shape_536 rfl) ?_
  refine px (fun _ => pm_iald (j := a) (pc := 537) d_Mo_shape_537 H.2.2.1 (rfl) (ha) (by decide)) ?_
  rw [ta.1]
  refine px (fun _ => pm_aload_n (pc := 538) d_Mo_shape_538 rfl) ?_
  refine px (fun _ => pm_getf fl_Mo_35 (pc := 539) d_Mo_shape_539 H.1 rfl) ?_
  refine px (fun _ => pm_iload_n (pc := 542) d_Mo_shape_542 rfl) ?_
  refine px (fun _ => pm_iald (j := n) (pc := 543) d_Mo_shape_543 H.2.2.2.2.2.2.2.2.2.1 (rfl) (hn) (by decide)) ?_
  rw [hp]
  refine pxn (fun _ => pm_if_ne (pc := 544) (tgt := 551) d_Mo_shape_544 (by decide)) (fun c_11 => ?_) (fun c_11 => absurd c_11 (by decide))
  refine px (fun _ => pm_iload (pc := 551) d_Mo_shape_551 rfl) ?_
  refine px (fun _ => pm_aload_n (pc := 553) d_Mo_shape_553 rfl) ?_
  refine px (fun _ => pm_getf fl_Mo_35 (pc := 554) d_Mo_shape_554 H.1 rfl) ?_
  refine px (fun _ => pm_iload_n (pc := 557) d_Mo_shape_557 rfl) ?_
  refine px (fun _ => pm_iald (j := n) (pc := 558) d_Mo_shape_558 H.2.2.2.2.2.2.2.2.2.1 (rfl) (hn) (by decide)) ?_
  rw [hp]
  refine pxn (fun _ => pm_if_ne (pc := 559) (tgt := 567) d_Mo_shape_559 (by decide)) (fun c_12 => ?_) (fun c_12 => absurd c_12 (by decide))
  refine px (fun _ => pm_iconst (v := 1) (pc := 567) d_Mo_shape_567 rfl) ?_
  obtain ⟨⟨o13, h13⟩, ⟨e13, H13, F13⟩, en13⟩ := m_give (l := l) (G := G) (fi := fi) (T := T) (t := (gT S a 0)) (r := (gT S a 1)) (c := 1) hl H hn ho ho9 (by omega) (by omega)
  dsimp only at e13 H13 F13
  subst e13
  refine px (fun _ => k_Mo_shape_568 (kc1 := 0) (ks1 := 0) (kc := 0) (ks := 0) (av := [.int (nI n), .int (nI (gT S a 0)), .int (nI (gT S a 1)), .int (1)]) (st := []) H.1 (en13) rfl rfl (Nat.le_of_ble_eq_true rfl)) ?_
  refine pxb (fun _ => pm_if_eq (pc := 571) (tgt := 578) d_Mo_shape_571 (by decide)) (fun c_14 => ?_) (fun c_14 => ?_)
  · have n_c_14 : ¬ ((1 ≤ (gT S a 1) ∧ (gT S a 1) ≤ 4) ∧ 1 ≤ 1 ∧ 1 ≤ 4) := g_if0.mp c_14
    refine px (fun _ => pm_iconst (v := 0) (pc := 578) d_Mo_shape_578 rfl) ?_
    exact pxr (pm_iret (pc := 579) d_Mo_shape_579 rfl rfl) (m_PX_n H13 (F13) (by first | (exact g_sh_n (by first | omega | assumption))))
  · have n_c_14 : (1 ≤ (gT S a 1) ∧ (gT S a 1) ≤ 4) ∧ 1 ≤ 1 ∧ 1 ≤ 4 := Decidable.byContradiction fun q => c_14 (g_if0.mpr q)
    refine px (fun _ => pm_iconst (v := 1) (pc := 574) d_Mo_shape_574 rfl) ?_
    refine px (fun _ => pm_goto (tgt := 579) (pc := 575) d_Mo_shape_575 (by decide)) ?_
    exact pxr (pm_iret (pc := 579) d_Mo_shape_579 rfl rfl) (m_PX_y H13 (F13) (by exact g_sh_y (by first | omega | assumption)))
set_option maxHeartbeats 1000000 in
set_option maxRecDepth 20000 in
theorem sh_10_n {l : Launch} {G : pm_G} {fi : Bool} {h : pm_H} {S : gS} {T : mS} {n a o9 : Nat}  (hl : l.stackTraces = false) (H : mH T h) (hn : n < 14) (hop : mA T 6 n = 10) (ea : mQ T 12 (n * 3) = nI a) (ha : a < 20) (ta : mTb S T a) (ra : g_rng S a) (ho : mA T 7 n = o9) (ho9 : o9 < 20) (hp : ¬ (mQ T 8 n = 0 ∨ mQ T 8 n = 1)) : pm_Cn l G fi fi 0 0 M_Mo_shape [.ref 95, .int (nI n)] h (m_PX T o9 h (none)) := by
  refine pm_Cn.of hl (by decide) (Nat.le_of_ble_eq_true rfl) ?_
  obtain ⟨r1, r2, r3, r4, r5⟩ := id ra
  refine sh_pre1 hl H hn hop ea ha ta ra (by decide) (by decide) ?_
  refine px (fun _ => pm_iload_n (pc := 131) d_Mo_shape_131 rfl) ?_
  refine px (fun _ => pm_iconst (v := 4) (pc := 132) d_Mo_shape_132 rfl) ?_
  refine pxb (fun _ => pm_icmp_lt (pc := 133) (tgt := 142) d_Mo_shape_133 (by decide)) (fun c_1 => absurd c_1 (by decide)) (fun c_1 => ?_)
  refine px (fun _ => pm_iload_n (pc := 136) d_Mo_shape_136 rfl) ?_
  refine px (fun _ => pm_bipush (v := 8) (pc := 137) d_Mo_shape_137 rfl) ?_
  refine pxn (fun _ => pm_icmp_ne (pc := 139) (tgt := 213) d_Mo_shape_139 (by decide)) (fun c_2 => ?_) (fun c_2 => absurd c_2 (by decide))
  refine px (fun _ => pm_iload_n (pc := 213) d_Mo_shape_213 rfl) ?_
  refine px (fun _ => pm_iconst (v := 4) (pc := 214) d_Mo_shape_214 rfl) ?_
  refine pxn (fun _ => pm_icmp_ne (pc := 215) (tgt := 259) d_Mo_shape_215 (by decide)) (fun c_3 => ?_) (fun c_3 => absurd c_3 (by decide))
  refine px (fun _ => pm_iload_n (pc := 259) d_Mo_shape_259 rfl) ?_
  refine px (fun _ => pm_iconst (v := 5) (pc := 260) d_Mo_shape_260 rfl) ?_
  refine pxb (fun _ => pm_icmp_eq (pc := 261) (tgt := 270) d_Mo_shape_261 (by decide)) (fun c_4 => absurd c_4 (by decide)) (fun c_4 => ?_)
  refine px (fun _ => pm_iload_n (pc := 264) d_Mo_shape_264 rfl) ?_
  refine px (fun _ => pm_bipush (v := 18) (pc := 265) d_Mo_shape_265 rfl) ?_
  refine pxn (fun _ => pm_icmp_ne (pc := 267) (tgt := 294) d_Mo_shape_267 (by decide)) (fun c_5 => ?_) (fun c_5 => absurd c_5 (by decide))
  refine px (fun _ => pm_iload_n (pc := 294) d_Mo_shape_294 rfl) ?_
  refine px (fun _ => pm_bipush (v := 6) (pc := 295) d_Mo_shape_295 rfl) ?_
  refine pxn (fun _ => pm_icmp_ne (pc := 297) (tgt := 316) d_Mo_shape_297 (by decide)) (fun c_6 => ?_) (fun c_6 => absurd c_6 (by decide))
  refine px (fun _ => pm_iload_n (pc := 316) d_Mo_shape_316 rfl) ?_
  refine px (fun _ => pm_bipush (v := 7) (pc := 317) d_Mo_shape_317 rfl) ?_
  refine pxn (fun _ => pm_icmp_ne (pc := 319) (tgt := 361) d_Mo_shape_319 (by decide)) (fun c_7 => ?_) (fun c_7 => absurd c_7 (by decide))
  refine px (fun _ => pm_iload_n (pc := 361) d_Mo_shape_361 rfl) ?_
  refine px (fun _ => pm_bipush (v := 9) (pc := 362) d_Mo_shape_362 rfl) ?_
  refine pxn (fun _ => pm_icmp_ne (pc := 364) (tgt := 503) d_Mo_shape_364 (by decide)) (fun c_8 => ?_) (fun c_8 => absurd c_8 (by decide))
  refine px (fun _ => pm_iload_n (pc := 503) d_Mo_shape_503 rfl) ?_
  refine px (fun _ => pm_bipush (v := 10) (pc := 504) d_Mo_shape_504 rfl) ?_
  refine pxb (fun _ => pm_icmp_eq (pc := 506) (tgt := 515) d_Mo_shape_506 (by decide)) (fun c_9 => ?_) (fun c_9 => absurd (by decide) c_9)
  refine px (fun _ => pm_aload_n (pc := 515) d_Mo_shape_515 rfl) ?_
  refine px (fun _ => pm_aload_n (pc := 516) d_Mo_shape_516 rfl) ?_
  refine px (fun _ => pm_getf fl_Mo_35 (pc := 517) d_Mo_shape_517 H.1 rfl) ?_
  refine px (fun _ => pm_iload_n (pc := 520) d_Mo_shape_520 rfl) ?_
  refine px (fun _ => pm_iald (j := n) (pc := 521) d_Mo_shape_521 H.2.2.2.2.2.2.2.2.2.1 (rfl) (hn) (by decide)) ?_
  refine px (fun _ => pm_iconst (v := 0) (pc := 522) d_Mo_shape_522 rfl) ?_
  refine px (fun _ => pm_iconst (v := 1) (pc := 523) d_Mo_shape_523 rfl) ?_
  refine px (fun _ => k_Mo_shape_524 (kc1 := 0) (ks1 := 0) (kc := 0) (ks := 0) (av := [.int ((mQ T 8) (n)), .int (0), .int (1)]) (st := []) H.1 (m_out_out hl H (fun q => hp (g_ty01 q))) rfl rfl (Nat.le_of_ble_eq_true rfl)) ?_
  refine pxn (fun _ => pm_if_ne (pc := 527) (tgt := 578) d_Mo_shape_527 (by decide)) (fun c_10 => ?_) (fun c_10 => absurd c_10 (by decide))
  refine px (fun _ => pm_iconst (v := 0) (pc := 578) d_Mo_shape_578 rfl) ?_
  exact pxr (pm_iret (pc := 579) d_Mo_shape_579 rfl rfl) (m_PX_0 H (mFr.rf _) (rfl))
set_option maxHeartbeats 1000000 in
set_option maxRecDepth 20000 in
theorem sh_11_0 {l : Launch} {G : pm_G} {fi : Bool} {h : pm_H} {S : gS} {T : mS} {n a o9 : Nat}  (hl : l.stackTraces = false) (H : mH T h) (hn : n < 14) (hop : mA T 6 n = 11) (ea : mQ T 12 (n * 3) = nI a) (ha : a < 20) (ta : mTb S T a) (ra : g_rng S a) (ho : mA T 7 n = o9) (ho9 : o9 < 20) (hp : mQ T 8 n = 0) : pm_Cn l G fi fi 0 0 M_Mo_shape [.ref 95, .int (nI n)] h (m_PX T o9 h (g_sh (gT S a 0) 1 (gT S a 2))) := by
  refine pm_Cn.of hl (by decide) (Nat.le_of_ble_eq_true rfl) ?_
  obtain ⟨r1, r2, r3, r4, r5⟩ := id ra
  refine sh_pre1 hl H hn hop ea ha ta ra (by decide) (by decide) ?_
  refine px (fun _ => pm_iload_n (pc := 131) d_Mo_shape_131 rfl) ?_
  refine px (fun _ => pm_iconst (v := 4) (pc := 132) d_Mo_shape_132 rfl) ?_
  refine pxb (fun _ => pm_icmp_lt (pc := 133) (tgt := 142) d_Mo_shape_133 (by decide)) (fun c_1 => absurd c_1 (by decide)) (fun c_1 => ?_)
  refine px (fun _ => pm_iload_n (pc := 136) d_Mo_shape_136 rfl) ?_
  refine px (fun _ => pm_bipush (v := 8) (pc := 137) d_Mo_shape_137 rfl) ?_
  refine pxn (fun _ => pm_icmp_ne (pc := 139) (tgt := 213) d_Mo_shape_139 (by decide)) (fun c_2 => ?_) (fun c_2 => absurd c_2 (by decide))
  refine px (fun _ => pm_iload_n (pc := 213) d_Mo_shape_213 rfl) ?_
  refine px (fun _ => pm_iconst (v := 4) (pc := 214) d_Mo_shape_214 rfl) ?_
  refine pxn (fun _ => pm_icmp_ne (pc := 215) (tgt := 259) d_Mo_shape_215 (by decide)) (fun c_3 => ?_) (fun c_3 => absurd c_3 (by decide))
  refine px (fun _ => pm_iload_n (pc := 259) d_Mo_shape_259 rfl) ?_
  refine px (fun _ => pm_iconst (v := 5) (pc := 260) d_Mo_shape_260 rfl) ?_
  refine pxb (fun _ => pm_icmp_eq (pc := 261) (tgt := 270) d_Mo_shape_261 (by decide)) (fun c_4 => absurd c_4 (by decide)) (fun c_4 => ?_)
  refine px (fun _ => pm_iload_n (pc := 264) d_Mo_shape_264 rfl) ?_
  refine px (fun _ => pm_bipush (v := 18) (pc := 265) d_Mo_shape_265 rfl) ?_
  refine pxn (fun _ => pm_icmp_ne (pc := 267) (tgt := 294) d_Mo_shape_267 (by decide)) (fun c_5 => ?_) (fun c_5 => absurd c_5 (by decide))
  refine px (fun _ => pm_iload_n (pc := 294) d_Mo_shape_294 rfl) ?_
  refine px (fun _ => pm_bipush (v := 6) (pc := 295) d_Mo_shape_295 rfl) ?_
  refine pxn (fun _ => pm_icmp_ne (pc := 297) (tgt := 316) d_Mo_shape_297 (by decide)) (fun c_6 => ?_) (fun c_6 => absurd c_6 (by decide))
  refine px (fun _ => pm_iload_n (pc := 316) d_Mo_shape_316 rfl) ?_
  refine px (fun _ => pm_bipush (v := 7) (pc := 317) d_Mo_shape_317 rfl) ?_
  refine pxn (fun _ => pm_icmp_ne (pc := 319) (tgt := 361) d_Mo_shape_319 (by decide)) (fun c_7 => ?_) (fun c_7 => absurd c_7 (by decide))
  refine px (fun _ => pm_iload_n (pc := 361) d_Mo_shape_361 rfl) ?_
  refine px (fun _ => pm_bipush (v := 9) (pc := 362) d_Mo_shape_362 rfl) ?_
  refine pxn (fun _ => pm_icmp_ne (pc := 364) (tgt := 503) d_Mo_shape_364 (by decide)) (fun c_8 => ?_) (fun c_8 => absurd c_8 (by decide))
  refine px (fun _ => pm_iload_n (pc := 503) d_Mo_shape_503 rfl) ?_
  refine px (fun _ => pm_bipush (v := 10) (pc := 504) d_Mo_shape_504 rfl) ?_
  refine pxb (fun _ => pm_icmp_eq (pc := 506) (tgt := 515) d_Mo_shape_506 (by decide)) (fun c_9 => absurd c_9 (by decide)) (fun c_9 => ?_)
  refine px (fun _ => pm_iload_n (pc := 509) d_Mo_shape_509 rfl) ?_
  refine px (fun _ => pm_bipush (v := 11) (pc := 510) d_Mo_shape_510 rfl) ?_
  refine pxn (fun _ => pm_icmp_ne (pc := 512) (tgt := 580) d_Mo_shape_512 (by decide)) (fun c_10 => absurd (by decide) c_10) (fun c_10 => ?_)
  refine px (fun _ => pm_aload_n (pc := 515) d_Mo_shape_515 rfl) ?_
  refine px (fun _ => pm_aload_n (pc := 516) d_Mo_shape_516 rfl) ?_
  refine px (fun _ => pm_getf fl_Mo_35 (pc := 517) d_Mo_shape_517 H.1 rfl) ?_
  refine px (fun _ => pm_iload_n (pc := 520) d_Mo_shape_520 rfl) ?_
  refine px (fun _ => pm_iald (j := n) (pc := 521) d_Mo_shape_521 H.2.2.2.2.2.2.2.2.2.1 (rfl) (hn) (by decide)) ?_
  rw [hp]
  refine px (fun _ => pm_iconst (v := 0) (pc := 522) d_Mo_shape_522 rfl) ?_
  refine px (fun _ => pm_iconst (v := 1) (pc := 523) d_Mo_shape_523 rfl) ?_
  refine px (fun _ => k_Mo_shape_524 (kc1 := 0) (ks1 := 0) (kc := 0) (ks := 0) (av := [.int (0), .int (0), .int (1)]) (st := []) H.1 (m_out_in hl H (by decide) (by decide)) rfl rfl (Nat.le_of_ble_eq_true rfl)) ?_
  refine pxn (fun _ => pm_if_ne (pc := 527) (tgt := 578) d_Mo_shape_527 (by decide)) (fun c_11 => absurd (by decide) c_11) (fun c_11 => ?_)
  refine px (fun _ => pm_aload_n (pc := 530) d_Mo_shape_530 rfl) ?_
  refine px (fun _ => pm_iload_n (pc := 531) d_Mo_shape_531 rfl) ?_
  refine px (fun _ => pm_aload_n (pc := 532) d_Mo_shape_532 rfl) ?_
  refine px (fun _ => pm_getf fl_Mo_13 (pc := 533) d_Mo_shape_533 H.1 rfl) ?_
  refine px (fun _ => pm_iload_n (pc := 536) d_Mo_shape_536 rfl) ?_
  refine px (fun _ => pm_iald (j := a) (pc := 537) d_Mo_shape_537 H.2.2.1 (rfl) (ha) (by decide)) ?_
  rw [ta.1]
  refine px (fun _ => pm_aload_n (pc := 538) d_Mo_shape_538 rfl) ?_
  refine px (fun _ => pm_getf fl_Mo_35 (pc := 539) d_Mo_shape_539 H.1 rfl) ?_
  refine px (fun _ => pm_iload_n (pc := 542) d_Mo_shape_542 rfl) ?_
  refine px (fun _ => pm_iald (j := n) (pc := 543) d_Mo_shape_543 H.2.2.2.2.2.2.2.2.2.1 (rfl) (hn) (by decide)) ?_
  rw [hp]
  refine pxn (fun _ => pm_if_ne (pc := 544) (tgt := 551) d_Mo_shape_544 (by decide)) (fun c_12 => absurd (by decide) c_12) (fun c_12 => ?_)
  refine px (fun _ => pm_iconst (v := 1) (pc := 547) d_Mo_shape_547 rfl) ?_
  refine px (fun _ => pm_goto (tgt := 553) (pc := 548) d_Mo_shape_548 (by decide)) ?_
  refine px (fun _ => pm_aload_n (pc := 553) d_Mo_shape_553 rfl) ?_
  refine px (fun _ => pm_getf fl_Mo_35 (pc := 554) d_Mo_shape_554 H.1 rfl) ?_
  refine px (fun _ => pm_iload_n (pc := 557) d_Mo_shape_557 rfl) ?_
  refine px (fun _ => pm_iald (j := n) (pc := 558) d_Mo_shape_558 H.2.2.2.2.2.2.2.2.2.1 (rfl) (hn) (by decide)) ?_
  rw [hp]
  refine pxn (fun _ => pm_if_ne (pc := 559) (tgt := 567) d_Mo_shape_559 (by decide)) (fun c_13 => absurd (by decide) c_13) (fun c_13 => ?_)
  refine px (fun _ => pm_iload (pc := 562) d_Mo_shape_562 rfl) ?_
  refine px (fun _ => pm_goto (tgt := 568) (pc := 564) d_Mo_shape_564 (by decide)) ?_
  obtain ⟨⟨o14, h14⟩, ⟨e14, H14, F14⟩, en14⟩ := m_give (l := l) (G := G) (fi := fi) (T := T) (t := (gT S a 0)) (r := 1) (c := (gT S a 2)) hl H hn ho ho9 (by omega) (by omega)
  dsimp only at e14 H14 F14
  subst e14
  refine px (fun _ => k_Mo_shape_568 (kc1 := 0) (ks1 := 0) (kc := 0) (ks := 0) (av := [.int (nI n), .int (nI (gT S a 0)), .int (1), .int (nI (gT S a 2))]) (st := []) H.1 (en14) rfl rfl (Nat.le_of_ble_eq_true rfl)) ?_
  refine pxb (fun _ => pm_if_eq (pc := 571) (tgt := 578) d_Mo_shape_571 (by decide)) (fun c_15 => ?_) (fun c_15 => ?_)
  · have n_c_15 : ¬ ((1 ≤ 1 ∧ 1 ≤ 4) ∧ 1 ≤ (gT S a 2) ∧ (gT S a 2) ≤ 4) := g_if0.mp c_15
    refine px (fun _ => pm_iconst (v := 0) (pc := 578) d_Mo_shape_578 rfl) ?_
    exact pxr (pm_iret (pc := 579) d_Mo_shape_579 rfl rfl) (m_PX_n H14 (F14) (by first | (exact g_sh_n (by first | omega | assumption))))
  · have n_c_15 : (1 ≤ 1 ∧ 1 ≤ 4) ∧ 1 ≤ (gT S a 2) ∧ (gT S a 2) ≤ 4 := Decidable.byContradiction fun q => c_15 (g_if0.mpr q)
    refine px (fun _ => pm_iconst (v := 1) (pc := 574) d_Mo_shape_574 rfl) ?_
    refine px (fun _ => pm_goto (tgt := 579) (pc := 575) d_Mo_shape_575 (by decide)) ?_
    exact pxr (pm_iret (pc := 579) d_Mo_shape_579 rfl rfl) (m_PX_y H14 (F14) (by exact g_sh_y (by first | omega | assumption)))
set_option maxHeartbeats 1000000 in
set_option maxRecDepth 20000 in
theorem sh_11_1 {l : Launch} {G : pm_G} {fi : Bool} {h : pm_H} {S : gS} {T : mS} {n a o9 : Nat}  (hl : l.stackTraces = false) (H : mH T h) (hn : n < 14) (hop : mA T 6 n = 11) (ea : mQ T 12 (n * 3) = nI a) (ha : a < 20) (ta : mTb S T a) (ra : g_rng S a) (ho : mA T 7 n = o9) (ho9 : o9 < 20) (hp : mQ T 8 n = 1) : pm_Cn l G fi fi 0 0 M_Mo_shape [.ref 95, .int (nI n)] h (m_PX T o9 h (g_sh (gT S a 0) (gT S a 1) 1)) := by
  refine pm_Cn.of hl (by decide) (Nat.le_of_ble_eq_true rfl) ?_
  obtain ⟨r1, r2, r3, r4, r5⟩ := id ra
  refine sh_pre1 hl H hn hop ea ha ta ra (by decide) (by decide) ?_
  refine px (fun _ => pm_iload_n (pc := 131) d_Mo_shape_131 rfl) ?_
  refine px (fun _ => pm_iconst (v := 4) (pc := 132) d_Mo_shape_132 rfl) ?_
  refine pxb (fun _ => pm_icmp_lt (pc := 133) (tgt := 142) d_Mo_shape_133 (by decide)) (fun c_1 => absurd c_1 (by decide)) (fun c_1 => ?_)
  refine px (fun _ => pm_iload_n (pc := 136) d_Mo_shape_136 rfl) ?_
  refine px (fun _ => pm_bipush (v := 8) (pc := 137) d_Mo_shape_137 rfl) ?_
  refine pxn (fun _ => pm_icmp_ne (pc := 139) (tgt := 213) d_Mo_shape_139 (by decide)) (fun c_2 => ?_) (fun c_2 => absurd c_2 (by decide))
  refine px (fun _ => pm_iload_n (pc := 213) d_Mo_shape_213 rfl) ?_
  refine px (fun _ => pm_iconst (v := 4) (pc := 214) d_Mo_shape_214 rfl) ?_
  refine pxn (fun _ => pm_icmp_ne (pc := 215) (tgt := 259) d_Mo_shape_215 (by decide)) (fun c_3 => ?_) (fun c_3 => absurd c_3 (by decide))
  refine px (fun _ => pm_iload_n (pc := 259) d_Mo_shape_259 rfl) ?_
  refine px (fun _ => pm_iconst (v := 5) (pc := 260) d_Mo_shape_260 rfl) ?_
  refine pxb (fun _ => pm_icmp_eq (pc := 261) (tgt := 270) d_Mo_shape_261 (by decide)) (fun c_4 => absurd c_4 (by decide)) (fun c_4 => ?_)
  refine px (fun _ => pm_iload_n (pc := 264) d_Mo_shape_264 rfl) ?_
  refine px (fun _ => pm_bipush (v := 18) (pc := 265) d_Mo_shape_265 rfl) ?_
  refine pxn (fun _ => pm_icmp_ne (pc := 267) (tgt := 294) d_Mo_shape_267 (by decide)) (fun c_5 => ?_) (fun c_5 => absurd c_5 (by decide))
  refine px (fun _ => pm_iload_n (pc := 294) d_Mo_shape_294 rfl) ?_
  refine px (fun _ => pm_bipush (v := 6) (pc := 295) d_Mo_shape_295 rfl) ?_
  refine pxn (fun _ => pm_icmp_ne (pc := 297) (tgt := 316) d_Mo_shape_297 (by decide)) (fun c_6 => ?_) (fun c_6 => absurd c_6 (by decide))
  refine px (fun _ => pm_iload_n (pc := 316) d_Mo_shape_316 rfl) ?_
  refine px (fun _ => pm_bipush (v := 7) (pc := 317) d_Mo_shape_317 rfl) ?_
  refine pxn (fun _ => pm_icmp_ne (pc := 319) (tgt := 361) d_Mo_shape_319 (by decide)) (fun c_7 => ?_) (fun c_7 => absurd c_7 (by decide))
  refine px (fun _ => pm_iload_n (pc := 361) d_Mo_shape_361 rfl) ?_
  refine px (fun _ => pm_bipush (v := 9) (pc := 362) d_Mo_shape_362 rfl) ?_
  refine pxn (fun _ => pm_icmp_ne (pc := 364) (tgt := 503) d_Mo_shape_364 (by decide)) (fun c_8 => ?_) (fun c_8 => absurd c_8 (by decide))
  refine px (fun _ => pm_iload_n (pc := 503) d_Mo_shape_503 rfl) ?_
  refine px (fun _ => pm_bipush (v := 10) (pc := 504) d_Mo_shape_504 rfl) ?_
  refine pxb (fun _ => pm_icmp_eq (pc := 506) (tgt := 515) d_Mo_shape_506 (by decide)) (fun c_9 => absurd c_9 (by decide)) (fun c_9 => ?_)
  refine px (fun _ => pm_iload_n (pc := 509) d_Mo_shape_509 rfl) ?_
  refine px (fun _ => pm_bipush (v := 11) (pc := 510) d_Mo_shape_510 rfl) ?_
  refine pxn (fun _ => pm_icmp_ne (pc := 512) (tgt := 580) d_Mo_shape_512 (by decide)) (fun c_10 => absurd (by decide) c_10) (fun c_10 => ?_)
  refine px (fun _ => pm_aload_n (pc := 515) d_Mo_shape_515 rfl) ?_
  refine px (fun _ => pm_aload_n (pc := 516) d_Mo_shape_516 rfl) ?_
  refine px (fun _ => pm_getf fl_Mo_35 (pc := 517) d_Mo_shape_517 H.1 rfl) ?_
  refine px (fun _ => pm_iload_n (pc := 520) d_Mo_shape_520 rfl) ?_
  refine px (fun _ => pm_iald (j := n) (pc := 521) d_Mo_shape_521 H.2.2.2.2.2.2.2.2.2.1 (rfl) (hn) (by decide)) ?_
  rw [hp]
  refine px (fun _ => pm_iconst (v := 0) (pc := 522) d_Mo_shape_522 rfl) ?_
  refine px (fun _ => pm_iconst (v := 1) (pc := 523) d_Mo_shape_523 rfl) ?_
  refine px (fun _ => k_Mo_shape_524 (kc1 := 0) (ks1 := 0) (kc := 0) (ks := 0) (av := [.int (1), .int (0), .int (1)]) (st := []) H.1 (m_out_in hl H (by decide) (by decide)) rfl rfl (Nat.le_of_ble_eq_true rfl)) ?_
  refine pxn (fun _ => pm_if_ne (pc := 527) (tgt := 578) d_Mo_shape_527 (by decide)) (fun c_11 => absurd (by decide) c_11) (fun c_11 => ?_)
  refine px (fun _ => pm_aload_n (pc := 530) d_Mo_shape_530 rfl) ?_
  refine px (fun _ => pm_iload_n (pc := 531) d_Mo_shape_531 rfl) ?_
  refine px (fun _ => pm_aload_n (pc := 532) d_Mo_shape_532 rfl) ?_
  refine px (fun _ => pm_getf fl_Mo_13 (pc := 533) d_Mo_shape_533 H.1 rfl) ?_
  refine px (fun _ => pm_iload_n (pc := 536) d_Mo_shape_536 rfl) ?_
  refine px (fun _ => pm_iald (j := a) (pc := 537) d_Mo_shape_537 H.2.2.1 (rfl) (ha) (by decide)) ?_
  rw [ta.1]
  refine px (fun _ => pm_aload_n (pc := 538) d_Mo_shape_538 rfl) ?_
  refine px (fun _ => pm_getf fl_Mo_35 (pc := 539) d_Mo_shape_539 H.1 rfl) ?_
  refine px (fun _ => pm_iload_n (pc := 542) d_Mo_shape_542 rfl) ?_
  refine px (fun _ => pm_iald (j := n) (pc := 543) d_Mo_shape_543 H.2.2.2.2.2.2.2.2.2.1 (rfl) (hn) (by decide)) ?_
  rw [hp]
  refine pxn (fun _ => pm_if_ne (pc := 544) (tgt := 551) d_Mo_shape_544 (by decide)) (fun c_12 => ?_) (fun c_12 => absurd c_12 (by decide))
  refine px (fun _ => pm_iload (pc := 551) d_Mo_shape_551 rfl) ?_
  refine px (fun _ => pm_aload_n (pc := 553) d_Mo_shape_553 rfl) ?_
  refine px (fun _ => pm_getf fl_Mo_35 (pc := 554) d_Mo_shape_554 H.1 rfl) ?_
  refine px (fun _ => pm_iload_n (pc := 557) d_Mo_shape_557 rfl) ?_
  refine px (fun _ => pm_iald (j := n) (pc := 558) d_Mo_shape_558 H.2.2.2.2.2.2.2.2.2.1 (rfl) (hn) (by decide)) ?_
  rw [hp]
  refine pxn (fun _ => pm_if_ne (pc := 559) (tgt := 567) d_Mo_shape_559 (by decide)) (fun c_13 => ?_) (fun c_13 => absurd c_13 (by decide))
  refine px (fun _ => pm_iconst (v := 1) (pc := 567) d_Mo_shape_567 rfl) ?_
  obtain ⟨⟨o14, h14⟩, ⟨e14, H14, F14⟩, en14⟩ := m_give (l := l) (G := G) (fi := fi) (T := T) (t := (gT S a 0)) (r := (gT S a 1)) (c := 1) hl H hn ho ho9 (by omega) (by omega)
  dsimp only at e14 H14 F14
  subst e14
  refine px (fun _ => k_Mo_shape_568 (kc1 := 0) (ks1 := 0) (kc := 0) (ks := 0) (av := [.int (nI n), .int (nI (gT S a 0)), .int (nI (gT S a 1)), .int (1)]) (st := []) H.1 (en14) rfl rfl (Nat.le_of_ble_eq_true rfl)) ?_
  refine pxb (fun _ => pm_if_eq (pc := 571) (tgt := 578) d_Mo_shape_571 (by decide)) (fun c_15 => ?_) (fun c_15 => ?_)
  · have n_c_15 : ¬ ((1 ≤ (gT S a 1) ∧ (gT S a 1) ≤ 4) ∧ 1 ≤ 1 ∧ 1 ≤ 4) := g_if0.mp c_15
    refine px (fun _ => pm_iconst (v := 0) (pc := 578) d_Mo_shape_578 rfl) ?_
    exact pxr (pm_iret (pc := 579) d_Mo_shape_579 rfl rfl) (m_PX_n H14 (F14) (by first | (exact g_sh_n (by first | omega | assumption))))
  · have n_c_15 : (1 ≤ (gT S a 1) ∧ (gT S a 1) ≤ 4) ∧ 1 ≤ 1 ∧ 1 ≤ 4 := Decidable.byContradiction fun q => c_15 (g_if0.mpr q)
    refine px (fun _ => pm_iconst (v := 1) (pc := 574) d_Mo_shape_574 rfl) ?_
    refine px (fun _ => pm_goto (tgt := 579) (pc := 575) d_Mo_shape_575 (by decide)) ?_
    exact pxr (pm_iret (pc := 579) d_Mo_shape_579 rfl rfl) (m_PX_y H14 (F14) (by exact g_sh_y (by first | omega | assumption)))
set_option maxHeartbeats 1000000 in
set_option maxRecDepth 20000 in
theorem sh_11_n {l : Launch} {G : pm_G} {fi : Bool} {h : pm_H} {S : gS} {T : mS} {n a o9 : Nat}  (hl : l.stackTraces = false) (H : mH T h) (hn : n < 14) (hop : mA T 6 n = 11) (ea : mQ T 12 (n * 3) = nI a) (ha : a < 20) (ta : mTb S T a) (ra : g_rng S a) (ho : mA T 7 n = o9) (ho9 : o9 < 20) (hp : ¬ (mQ T 8 n = 0 ∨ mQ T 8 n = 1)) : pm_Cn l G fi fi 0 0 M_Mo_shape [.ref 95, .int (nI n)] h (m_PX T o9 h (none)) := by
  refine pm_Cn.of hl (by decide) (Nat.le_of_ble_eq_true rfl) ?_
  obtain ⟨r1, r2, r3, r4, r5⟩ := id ra
  refine sh_pre1 hl H hn hop ea ha ta ra (by decide) (by decide) ?_
  refine px (fun _ => pm_iload_n (pc := 131) d_Mo_shape_131 rfl) ?_
  refine px (fun _ => pm_iconst (v := 4) (pc := 132) d_Mo_shape_132 rfl) ?_
  refine pxb (fun _ => pm_icmp_lt (pc := 133) (tgt := 142) d_Mo_shape_133 (by decide)) (fun c_1 => absurd c_1 (by decide)) (fun c_1 => ?_)
  refine px (fun _ => pm_iload_n (pc := 136) d_Mo_shape_136 rfl) ?_
  refine px (fun _ => pm_bipush (v := 8) (pc := 137) d_Mo_shape_137 rfl) ?_
  refine pxn (fun _ => pm_icmp_ne (pc := 139) (tgt := 213) d_Mo_shape_139 (by decide)) (fun c_2 => ?_) (fun c_2 => absurd c_2 (by decide))
  refine px (fun _ => pm_iload_n (pc := 213) d_Mo_shape_213 rfl) ?_
  refine px (fun _ => pm_iconst (v := 4) (pc := 214) d_Mo_shape_214 rfl) ?_
  refine pxn (fun _ => pm_icmp_ne (pc := 215) (tgt := 259) d_Mo_shape_215 (by decide)) (fun c_3 => ?_) (fun c_3 => absurd c_3 (by decide))
  refine px (fun _ => pm_iload_n (pc := 259) d_Mo_shape_259 rfl) ?_
  refine px (fun _ => pm_iconst (v := 5) (pc := 260) d_Mo_shape_260 rfl) ?_
  refine pxb (fun _ => pm_icmp_eq (pc := 261) (tgt := 270) d_Mo_shape_261 (by decide)) (fun c_4 => absurd c_4 (by decide)) (fun c_4 => ?_)
  refine px (fun _ => pm_iload_n (pc := 264) d_Mo_shape_264 rfl) ?_
  refine px (fun _ => pm_bipush (v := 18) (pc := 265) d_Mo_shape_265 rfl) ?_
  refine pxn (fun _ => pm_icmp_ne (pc := 267) (tgt := 294) d_Mo_shape_267 (by decide)) (fun c_5 => ?_) (fun c_5 => absurd c_5 (by decide))
  refine px (fun _ => pm_iload_n (pc := 294) d_Mo_shape_294 rfl) ?_
  refine px (fun _ => pm_bipush (v := 6) (pc := 295) d_Mo_shape_295 rfl) ?_
  refine pxn (fun _ => pm_icmp_ne (pc := 297) (tgt := 316) d_Mo_shape_297 (by decide)) (fun c_6 => ?_) (fun c_6 => absurd c_6 (by decide))
  refine px (fun _ => pm_iload_n (pc := 316) d_Mo_shape_316 rfl) ?_
  refine px (fun _ => pm_bipush (v := 7) (pc := 317) d_Mo_shape_317 rfl) ?_
  refine pxn (fun _ => pm_icmp_ne (pc := 319) (tgt := 361) d_Mo_shape_319 (by decide)) (fun c_7 => ?_) (fun c_7 => absurd c_7 (by decide))
  refine px (fun _ => pm_iload_n (pc := 361) d_Mo_shape_361 rfl) ?_
  refine px (fun _ => pm_bipush (v := 9) (pc := 362) d_Mo_shape_362 rfl) ?_
  refine pxn (fun _ => pm_icmp_ne (pc := 364) (tgt := 503) d_Mo_shape_364 (by decide)) (fun c_8 => ?_) (fun c_8 => absurd c_8 (by decide))
  refine px (fun _ => pm_iload_n (pc := 503) d_Mo_shape_503 rfl) ?_
  refine px (fun _ => pm_bipush (v := 10) (pc := 504) d_Mo_shape_504 rfl) ?_
  refine pxb (fun _ => pm_icmp_eq (pc := 506) (tgt := 515) d_Mo_shape_506 (by decide)) (fun c_9 => absurd c_9 (by decide)) (fun c_9 => ?_)
  refine px (fun _ => pm_iload_n (pc := 509) d_Mo_shape_509 rfl) ?_
  refine px (fun _ => pm_bipush (v := 11) (pc := 510) d_Mo_shape_510 rfl) ?_
  refine pxn (fun _ => pm_icmp_ne (pc := 512) (tgt := 580) d_Mo_shape_512 (by decide)) (fun c_10 => absurd (by decide) c_10) (fun c_10 => ?_)
  refine px (fun _ => pm_aload_n (pc := 515) d_Mo_shape_515 rfl) ?_
  refine px (fun _ => pm_aload_n (pc := 516) d_Mo_shape_516 rfl) ?_
  refine px (fun _ => pm_getf fl_Mo_35 (pc := 517) d_Mo_shape_517 H.1 rfl) ?_
  refine px (fun _ => pm_iload_n (pc := 520) d_Mo_shape_520 rfl) ?_
  refine px (fun _ => pm_iald (j := n) (pc := 521) d_Mo_shape_521 H.2.2.2.2.2.2.2.2.2.1 (rfl) (hn) (by decide)) ?_
  refine px (fun _ => pm_iconst (v := 0) (pc := 522) d_Mo_shape_522 rfl) ?_
  refine px (fun _ => pm_iconst (v := 1) (pc := 523) d_Mo_shape_523 rfl) ?_
  refine px (fun _ => k_Mo_shape_524 (kc1 := 0) (ks1 := 0) (kc := 0) (ks := 0) (av := [.int ((mQ T 8) (n)), .int (0), .int (1)]) (st := []) H.1 (m_out_out hl H (fun q => hp (g_ty01 q))) rfl rfl (Nat.le_of_ble_eq_true rfl)) ?_
  refine pxn (fun _ => pm_if_ne (pc := 527) (tgt := 578) d_Mo_shape_527 (by decide)) (fun c_11 => ?_) (fun c_11 => absurd c_11 (by decide))
  refine px (fun _ => pm_iconst (v := 0) (pc := 578) d_Mo_shape_578 rfl) ?_
  exact pxr (pm_iret (pc := 579) d_Mo_shape_579 rfl rfl) (m_PX_0 H (mFr.rf _) (rfl))
set_option maxHeartbeats 1000000 in
set_option maxRecDepth 20000 in
theorem sh_12 {l : Launch} {G : pm_G} {fi : Bool} {h : pm_H} {S : gS} {T : mS} {n a o9 : Nat}  (hl : l.stackTraces = false) (H : mH T h) (hn : n < 14) (hop : mA T 6 n = 12) (ea : mQ T 12 (n * 3) = nI a) (ha : a < 20) (ta : mTb S T a) (ra : g_rng S a) (ho : mA T 7 n = o9) (ho9 : o9 < 20)  : pm_Cn l G fi fi 0 0 M_Mo_shape [.ref 95, .int (nI n)] h (m_PX T o9 h (g_sh 1 (gT S a 1) 1)) := by
  refine pm_Cn.of hl (by decide) (Nat.le_of_ble_eq_true rfl) ?_
  obtain ⟨r1, r2, r3, r4, r5⟩ := id ra
  refine sh_pre1 hl H hn hop ea ha ta ra (by decide) (by decide) ?_
  refine px (fun _ => pm_iload_n (pc := 131) d_Mo_shape_131 rfl) ?_
  refine px (fun _ => pm_iconst (v := 4) (pc := 132) d_Mo_shape_132 rfl) ?_
  refine pxb (fun _ => pm_icmp_lt (pc := 133) (tgt := 142) d_Mo_shape_133 (by decide)) (fun c_1 => absurd c_1 (by decide)) (fun c_1 => ?_)
  refine px (fun _ => pm_iload_n (pc := 136) d_Mo_shape_136 rfl) ?_
  refine px (fun _ => pm_bipush (v := 8) (pc := 137) d_Mo_shape_137 rfl) ?_
  refine pxn (fun _ => pm_icmp_ne (pc := 139) (tgt := 213) d_Mo_shape_139 (by decide)) (fun c_2 => ?_) (fun c_2 => absurd c_2 (by decide))
  refine px (fun _ => pm_iload_n (pc := 213) d_Mo_shape_213 rfl) ?_
  refine px (fun _ => pm_iconst (v := 4) (pc := 214) d_Mo_shape_214 rfl) ?_
  refine pxn (fun _ => pm_icmp_ne (pc := 215) (tgt := 259) d_Mo_shape_215 (by decide)) (fun c_3 => ?_) (fun c_3 => absurd c_3 (by decide))
  refine px (fun _ => pm_iload_n (pc := 259) d_Mo_shape_259 rfl) ?_
  refine px (fun _ => pm_iconst (v := 5) (pc := 260) d_Mo_shape_260 rfl) ?_
  refine pxb (fun _ => pm_icmp_eq (pc := 261) (tgt := 270) d_Mo_shape_261 (by decide)) (fun c_4 => absurd c_4 (by decide)) (fun c_4 => ?_)
  refine px (fun _ => pm_iload_n (pc := 264) d_Mo_shape_264 rfl) ?_
  refine px (fun _ => pm_bipush (v := 18) (pc := 265) d_Mo_shape_265 rfl) ?_
  refine pxn (fun _ => pm_icmp_ne (pc := 267) (tgt := 294) d_Mo_shape_267 (by decide)) (fun c_5 => ?_) (fun c_5 => absurd c_5 (by decide))
  refine px (fun _ => pm_iload_n (pc := 294) d_Mo_shape_294 rfl) ?_
  refine px (fun _ => pm_bipush (v := 6) (pc := 295) d_Mo_shape_295 rfl) ?_
  refine pxn (fun _ => pm_icmp_ne (pc := 297) (tgt := 316) d_Mo_shape_297 (by decide)) (fun c_6 => ?_) (fun c_6 => absurd c_6 (by decide))
  refine px (fun _ => pm_iload_n (pc := 316) d_Mo_shape_316 rfl) ?_
  refine px (fun _ => pm_bipush (v := 7) (pc := 317) d_Mo_shape_317 rfl) ?_
  refine pxn (fun _ => pm_icmp_ne (pc := 319) (tgt := 361) d_Mo_shape_319 (by decide)) (fun c_7 => ?_) (fun c_7 => absurd c_7 (by decide))
  refine px (fun _ => pm_iload_n (pc := 361) d_Mo_shape_361 rfl) ?_
  refine px (fun _ => pm_bipush (v := 9) (pc := 362) d_Mo_shape_362 rfl) ?_
  refine pxn (fun _ => pm_icmp_ne (pc := 364) (tgt := 503) d_Mo_shape_364 (by decide)) (fun c_8 => ?_) (fun c_8 => absurd c_8 (by decide))
  refine px (fun _ => pm_iload_n (pc := 503) d_Mo_shape_503 rfl) ?_
  refine px (fun _ => pm_bipush (v := 10) (pc := 504) d_Mo_shape_504 rfl) ?_
  refine pxb (fun _ => pm_icmp_eq (pc := 506) (tgt := 515) d_Mo_shape_506 (by decide)) (fun c_9 => absurd c_9 (by decide)) (fun c_9 => ?_)
  refine px (fun _ => pm_iload_n (pc := 509) d_Mo_shape_509 rfl) ?_
  refine px (fun _ => pm_bipush (v := 11) (pc := 510) d_Mo_shape_510 rfl) ?_
  refine pxn (fun _ => pm_icmp_ne (pc := 512) (tgt := 580) d_Mo_shape_512 (by decide)) (fun c_10 => ?_) (fun c_10 => absurd c_10 (by decide))
  refine px (fun _ => pm_iload_n (pc := 580) d_Mo_shape_580 rfl) ?_
  refine px (fun _ => pm_bipush (v := 12) (pc := 581) d_Mo_shape_581 rfl) ?_
  refine pxn (fun _ => pm_icmp_ne (pc := 583) (tgt := 596) d_Mo_shape_583 (by decide)) (fun c_11 => absurd (by decide) c_11) (fun c_11 => ?_)
  refine px (fun _ => pm_aload_n (pc := 586) d_Mo_shape_586 rfl) ?_
  refine px (fun _ => pm_iload_n (pc := 587) d_Mo_shape_587 rfl) ?_
  refine px (fun _ => pm_iconst (v := 1) (pc := 588) d_Mo_shape_588 rfl) ?_
  refine px (fun _ => pm_iload (pc := 589) d_Mo_shape_589 rfl) ?_
  refine px (fun _ => pm_iconst (v := 1) (pc := 591) d_Mo_shape_591 rfl) ?_
  obtain ⟨⟨o12, h12⟩, ⟨e12, H12, F12⟩, en12⟩ := m_give (l := l) (G := G) (fi := fi) (T := T) (t := 1) (r := (gT S a 1)) (c := 1) hl H hn ho ho9 (by omega) (by omega)
  dsimp only at e12 H12 F12
  subst e12
  refine px (fun _ => k_Mo_shape_592 (kc1 := 0) (ks1 := 0) (kc := 0) (ks := 0) (av := [.int (nI n), .int (1), .int (nI (gT S a 1)), .int (1)]) (st := []) H.1 (en12) rfl rfl (Nat.le_of_ble_eq_true rfl)) ?_
  by_cases g9 : (1 ≤ (gT S a 1) ∧ (gT S a 1) ≤ 4) ∧ 1 ≤ 1 ∧ 1 ≤ 4
  · rw [if_pos g9]; exact pxr (pm_iret (pc := 595) d_Mo_shape_595 rfl rfl) (m_PX_y H12 (F12) (by exact g_sh_y (by first | omega | assumption)))
  · rw [if_neg g9]; exact pxr (pm_iret (pc := 595) d_Mo_shape_595 rfl rfl) (m_PX_n H12 (F12) (by first | (exact g_sh_n (by first | omega | assumption))))
set_option maxHeartbeats 1000000 in
set_option maxRecDepth 20000 in
theorem sh_13_0 {l : Launch} {G : pm_G} {fi : Bool} {h : pm_H} {S : gS} {T : mS} {n a b o9 : Nat}  (hl : l.stackTraces = false) (H : mH T h) (hn : n < 14) (hop : mA T 6 n = 13) (ea : mQ T 12 (n * 3) = nI a) (ha : a < 20) (ta : mTb S T a) (ra : g_rng S a) (eb : mQ T 12 (n * 3 + 1) = nI b) (hb : b < 20) (tb : mTb S T b) (rb : g_rng S b) (ho : mA T 7 n = o9) (ho9 : o9 < 20) (hp : mQ T 8 n = 0) : pm_Cn l G fi fi 0 0 M_Mo_shape [.ref 95, .int (nI n)] h (m_PX T o9 h (if gT S a 0 = gT S b 0 then if gT S a 2 = gT S b 2 then g_sh (gT S a 0) (gT S a 1 + gT S b 1) (gT S a 2) else none else none)) := by
  refine pm_Cn.of hl (by decide) (Nat.le_of_ble_eq_true rfl) ?_
  obtain ⟨r1, r2, r3, r4, r5⟩ := id ra
  obtain ⟨s1, s2, s3, s4, s5⟩ := id rb
  refine sh_pre2 hl H hn hop ea ha ta ra eb hb tb rb (by decide) (by decide) ?_
  refine px (fun _ => pm_iload_n (pc := 131) d_Mo_shape_131 rfl) ?_
  refine px (fun _ => pm_iconst (v := 4) (pc := 132) d_Mo_shape_132 rfl) ?_
  refine pxb (fun _ => pm_icmp_lt (pc := 133) (tgt := 142) d_Mo_shape_133 (by decide)) (fun c_1 => absurd c_1 (by decide)) (fun c_1 => ?_)
  refine px (fun _ => pm_iload_n (pc := 136) d_Mo_shape_136 rfl) ?_
  refine px (fun _ => pm_bipush (v := 8) (pc := 137) d_Mo_shape_137 rfl) ?_
  refine pxn (fun _ => pm_icmp_ne (pc := 139) (tgt := 213) d_Mo_shape_139 (by decide)) (fun c_2 => ?_) (fun c_2 => absurd c_2 (by decide))
  refine px (fun _ => pm_iload_n (pc := 213) d_Mo_shape_213 rfl) ?_
  refine px (fun _ => pm_iconst (v := 4) (pc := 214) d_Mo_shape_214 rfl) ?_
  refine pxn (fun _ => pm_icmp_ne (pc := 215) (tgt := 259) d_Mo_shape_215 (by decide)) (fun c_3 => ?_) (fun c_3 => absurd c_3 (by decide))
  refine px (fun _ => pm_iload_n (pc := 259) d_Mo_shape_259 rfl) ?_
  refine px (fun _ => pm_iconst (v := 5) (pc := 260) d_Mo_shape_260 rfl) ?_
  refine pxb (fun _ => pm_icmp_eq (pc := 261) (tgt := 270) d_Mo_shape_261 (by decide)) (fun c_4 => absurd c_4 (by decide)) (fun c_4 => ?_)
  refine px (fun _ => pm_iload_n (pc := 264) d_Mo_shape_264 rfl) ?_
  refine px (fun _ => pm_bipush (v := 18) (pc := 265) d_Mo_shape_265 rfl) ?_
  refine pxn (fun _ => pm_icmp_ne (pc := 267) (tgt := 294) d_Mo_shape_267 (by decide)) (fun c_5 => ?_) (fun c_5 => absurd c_5 (by decide))
  refine px (fun _ => pm_iload_n (pc := 294) d_Mo_shape_294 rfl) ?_
  refine px (fun _ => pm_bipush (v := 6) (pc := 295) d_Mo_shape_295 rfl) ?_
  refine pxn (fun _ => pm_icmp_ne (pc := 297) (tgt := 316) d_Mo_shape_297 (by decide)) (fun c_6 => ?_) (fun c_6 => absurd c_6 (by decide))
  refine px (fun _ => pm_iload_n (pc := 316) d_Mo_shape_316 rfl) ?_
  refine px (fun _ => pm_bipush (v := 7) (pc := 317) d_Mo_shape_317 rfl) ?_
  refine pxn (fun _ => pm_icmp_ne (pc := 319) (tgt := 361) d_Mo_shape_319 (by decide)) (fun c_7 => ?_) (fun c_7 => absurd c_7 (by decide))
  refine px (fun _ => pm_iload_n (pc := 361) d_Mo_shape_361 rfl) ?_
  refine px (fun _ => pm_bipush (v := 9) (pc := 362) d_Mo_shape_362 rfl) ?_
  refine pxn (fun _ => pm_icmp_ne (pc := 364) (tgt := 503) d_Mo_shape_364 (by decide)) (fun c_8 => ?_) (fun c_8 => absurd c_8 (by decide))
  refine px (fun _ => pm_iload_n (pc := 503) d_Mo_shape_503 rfl) ?_
  refine px (fun _ => pm_bipush (v := 10) (pc := 504) d_Mo_shape_504 rfl) ?_
  refine pxb (fun _ => pm_icmp_eq (pc := 506) (tgt := 515) d_Mo_shape_506 (by decide)) (fun c_9 => absurd c_9 (by decide)) (fun c_9 => ?_)
  refine px (fun _ => pm_iload_n (pc := 509) d_Mo_shape_509 rfl) ?_
  refine px (fun _ => pm_bipush (v := 11) (pc := 510) d_Mo_shape_510 rfl) ?_
  refine pxn (fun _ => pm_icmp_ne (pc := 512) (tgt := 580) d_Mo_shape_512 (by decide)) (fun c_10 => ?_) (fun c_10 => absurd c_10 (by decide))
  refine px (fun _ => pm_iload_n (pc := 580) d_Mo_shape_580 rfl) ?_
  refine px (fun _ => pm_bipush (v := 12) (pc := 581) d_Mo_shape_581 rfl) ?_
  refine pxn (fun _ => pm_icmp_ne (pc := 583) (tgt := 596) d_Mo_shape_583 (by decide)) (fun c_11 => ?_) (fun c_11 => absurd c_11 (by decide))
  refine px (fun _ => pm_iload_n (pc := 596) d_Mo_shape_596 rfl) ?_
  refine px (fun _ => pm_bipush (v := 13) (pc := 597) d_Mo_shape_597 rfl) ?_
  refine pxn (fun _ => pm_icmp_ne (pc := 599) (tgt := 721) d_Mo_shape_599 (by decide)) (fun c_12 => absurd (by decide) c_12) (fun c_12 => ?_)
  refine px (fun _ => pm_iload (pc := 602) d_Mo_shape_602 rfl) ?_
  refine pxb (fun _ => pm_if_eq (pc := 604) (tgt := 622) d_Mo_shape_604 (by decide)) (fun c_13 => ?_) (fun c_13 => ?_)
  · have n_c_13 : ¬ (gT S a 0 = gT S b 0) := g_if0.mp c_13
    refine px (fun _ => pm_iconst (v := 0) (pc := 622) d_Mo_shape_622 rfl) ?_
    exact pxr (pm_iret (pc := 623) d_Mo_shape_623 rfl rfl) (m_PX_0 H (mFr.rf _) (by first | (exact if_neg (by first | omega | assumption)) | (rw [if_pos (by first | omega | assumption)]; exact if_neg (by first | omega | assumption)) | (rw [if_pos (by first | omega | assumption), if_pos (by first | omega | assumption)]; exact g_sh_n (by first | omega | assumption))))
  · have n_c_13 : gT S a 0 = gT S b 0 := Decidable.byContradiction fun q => c_13 (g_if0.mpr q)
    refine px (fun _ => pm_aload_n (pc := 607) d_Mo_shape_607 rfl) ?_
    refine px (fun _ => pm_aload_n (pc := 608) d_Mo_shape_608 rfl) ?_
    refine px (fun _ => pm_getf fl_Mo_35 (pc := 609) d_Mo_shape_609 H.1 rfl) ?_
    refine px (fun _ => pm_iload_n (pc := 612) d_Mo_shape_612 rfl) ?_
    refine px (fun _ => pm_iald (j := n) (pc := 613) d_Mo_shape_613 H.2.2.2.2.2.2.2.2.2.1 (rfl) (hn) (by decide)) ?_
    rw [hp]
    refine px (fun _ => pm_iconst (v := 0) (pc := 614) d_Mo_shape_614 rfl) ?_
    refine px (fun _ => pm_iconst (v := 1) (pc := 615) d_Mo_shape_615 rfl) ?_
    refine px (fun _ => k_Mo_shape_616 (kc1 := 0) (ks1 := 0) (kc := 0) (ks := 0) (av := [.int (0), .int (0), .int (1)]) (st := []) H.1 (m_out_in hl H (by decide) (by decide)) rfl rfl (Nat.le_of_ble_eq_true rfl)) ?_
    refine pxb (fun _ => pm_if_eq (pc := 619) (tgt := 624) d_Mo_shape_619 (by decide)) (fun c_14 => ?_) (fun c_14 => absurd (by decide) c_14)
    refine px (fun _ => pm_aload_n (pc := 624) d_Mo_shape_624 rfl) ?_
    refine px (fun _ => pm_getf fl_Mo_35 (pc := 625) d_Mo_shape_625 H.1 rfl) ?_
    refine px (fun _ => pm_iload_n (pc := 628) d_Mo_shape_628 rfl) ?_
    refine px (fun _ => pm_iald (j := n) (pc := 629) d_Mo_shape_629 H.2.2.2.2.2.2.2.2.2.1 (rfl) (hn) (by decide)) ?_
    rw [hp]
    refine pxn (fun _ => pm_if_ne (pc := 630) (tgt := 677) d_Mo_shape_630 (by decide)) (fun c_15 => absurd (by decide) c_15) (fun c_15 => ?_)
    refine px (fun _ => pm_iload (pc := 633) d_Mo_shape_633 rfl) ?_
    refine px (fun _ => pm_aload_n (pc := 635) d_Mo_shape_635 rfl) ?_
    refine px (fun _ => pm_getf fl_Mo_19 (pc := 636) d_Mo_shape_636 H.1 rfl) ?_
    refine px (fun _ => pm_iload (pc := 639) d_Mo_shape_639 rfl) ?_
    refine px (fun _ => pm_iald (j := b) (pc := 641) d_Mo_shape_641 H.2.2.2.2.1 (rfl) (hb) (by decide)) ?_
    rw [tb.2.2]
    refine pxn (fun _ => pm_icmp_ne (pc := 642) (tgt := 675) d_Mo_shape_642 (by decide)) (fun c_16 => ?_) (fun c_16 => ?_)
    · have n_c_16 : ¬ ((gT S a 2) = (gT S b 2)) := fun zq => c_16 ((nI_eq (a := (gT S a 2)) (b := (gT S b 2)) (by omega) (by omega)).mpr zq)
      refine px (fun _ => pm_iconst (v := 0) (pc := 675) d_Mo_shape_675 rfl) ?_
      exact pxr (pm_iret (pc := 676) d_Mo_shape_676 rfl rfl) (m_PX_0 H (mFr.rf _) (by first | (exact if_neg (by first | omega | assumption)) | (rw [if_pos (by first | omega | assumption)]; exact if_neg (by first | omega | assumption)) | (rw [if_pos (by first | omega | assumption), if_pos (by first | omega | assumption)]; exact g_sh_n (by first | omega | assumption))))
    · have n_c_16 : (gT S a 2) = (gT S b 2) := (nI_eq (a := (gT S a 2)) (b := (gT S b 2)) (by omega) (by omega)).mp c_16
      refine px (fun _ => pm_aload_n (pc := 645) d_Mo_shape_645 rfl) ?_
      refine px (fun _ => pm_iload_n (pc := 646) d_Mo_shape_646 rfl) ?_
      refine px (fun _ => pm_aload_n (pc := 647) d_Mo_shape_647 rfl) ?_
      refine px (fun _ => pm_getf fl_Mo_13 (pc := 648) d_Mo_shape_648 H.1 rfl) ?_
      refine px (fun _ => pm_iload_n (pc := 651) d_Mo_shape_651 rfl) ?_
      refine px (fun _ => pm_iald (j := a) (pc := 652) d_Mo_shape_652 H.2.2.1 (rfl) (ha) (by decide)) ?_
      rw [ta.1]
      refine px (fun _ => pm_iload (pc := 653) d_Mo_shape_653 rfl) ?_
      refine px (fun _ => pm_aload_n (pc := 655) d_Mo_shape_655 rfl) ?_
      refine px (fun _ => pm_getf fl_Mo_16 (pc := 656) d_Mo_shape_656 H.1 rfl) ?_
      refine px (fun _ => pm_iload (pc := 659) d_Mo_shape_659 rfl) ?_
      refine px (fun _ => pm_iald (j := b) (pc := 661) d_Mo_shape_661 H.2.2.2.1 (rfl) (hb) (by decide)) ?_
      rw [tb.2.1]
      refine px (fun _ => pm_iaddN (a := (gT S a 1)) (b := (gT S b 1)) (pc := 662) d_Mo_shape_662) ?_
      refine px (fun _ => pm_iload (pc := 663) d_Mo_shape_663 rfl) ?_
      obtain ⟨⟨o17, h17⟩, ⟨e17, H17, F17⟩, en17⟩ := m_give (l := l) (G := G) (fi := fi) (T := T) (t := (gT S a 0)) (r := ((gT S a 1) + (gT S b 1))) (c := (gT S a 2)) hl H hn ho ho9 (by omega) (by omega)
      dsimp only at e17 H17 F17
      subst e17
      refine px (fun _ => k_Mo_shape_665 (kc1 := 0) (ks1 := 0) (kc := 0) (ks := 0) (av := [.int (nI n), .int (nI (gT S a 0)), .int (nI ((gT S a 1) + (gT S b 1))), .int (nI (gT S a 2))]) (st := []) H.1 (en17) rfl rfl (Nat.le_of_ble_eq_true rfl)) ?_
      refine pxb (fun _ => pm_if_eq (pc := 668) (tgt := 675) d_Mo_shape_668 (by decide)) (fun c_18 => ?_) (fun c_18 => ?_)
      · have n_c_18 : ¬ ((1 ≤ ((gT S a 1) + (gT S b 1)) ∧ ((gT S a 1) + (gT S b 1)) ≤ 4) ∧ 1 ≤ (gT S a 2) ∧ (gT S a 2) ≤ 4) := g_if0.mp c_18
        refine px (fun _ => pm_iconst (v := 0) (pc := 675) d_Mo_shape_675 rfl) ?_
        exact pxr (pm_iret (pc := 676) d_Mo_shape_676 rfl rfl) (m_PX_n H17 (F17) (by first | (exact if_neg (by first | omega | assumption)) | (rw [if_pos (by first | omega | assumption)]; exact if_neg (by first | omega | assumption)) | (rw [if_pos (by first | omega | assumption), if_pos (by first | omega | assumption)]; exact g_sh_n (by first | omega | assumption))))
      · have n_c_18 : (1 ≤ ((gT S a 1) + (gT S b 1)) ∧ ((gT S a 1) + (gT S b 1)) ≤ 4) ∧ 1 ≤ (gT S a 2) ∧ (gT S a 2) ≤ 4 := Decidable.byContradiction fun q => c_18 (g_if0.mpr q)
        refine px (fun _ => pm_iconst (v := 1) (pc := 671) d_Mo_shape_671 rfl) ?_
        refine px (fun _ => pm_goto (tgt := 676) (pc := 672) d_Mo_shape_672 (by decide)) ?_
        exact pxr (pm_iret (pc := 676) d_Mo_shape_676 rfl rfl) (m_PX_y H17 (F17) (by rw [if_pos (by first | omega | assumption), if_pos (by first | omega | assumption)]; exact g_sh_y (by first | omega | assumption)))
set_option maxHeartbeats 1000000 in
set_option maxRecDepth 20000 in
theorem sh_13_1 {l : Launch} {G : pm_G} {fi : Bool} {h : pm_H} {S : gS} {T : mS} {n a b o9 : Nat}  (hl : l.stackTraces = false) (H : mH T h) (hn : n < 14) (hop : mA T 6 n = 13) (ea : mQ T 12 (n * 3) = nI a) (ha : a < 20) (ta : mTb S T a) (ra : g_rng S a) (eb : mQ T 12 (n * 3 + 1) = nI b) (hb : b < 20) (tb : mTb S T b) (rb : g_rng S b) (ho : mA T 7 n = o9) (ho9 : o9 < 20) (hp : mQ T 8 n = 1) : pm_Cn l G fi fi 0 0 M_Mo_shape [.ref 95, .int (nI n)] h (m_PX T o9 h (if gT S a 0 = gT S b 0 then if gT S a 1 = gT S b 1 then g_sh (gT S a 0) (gT S a 1) (gT S a 2 + gT S b 2) else none else none)) := by
  refine pm_Cn.of hl (by decide) (Nat.le_of_ble_eq_true rfl) ?_
  obtain ⟨r1, r2, r3, r4, r5⟩ := id ra
  obtain ⟨s1, s2, s3, s4, s5⟩ := id rb
  refine sh_pre2 hl H hn hop ea ha ta ra eb hb tb rb (by decide) (by decide) ?_
  refine px (fun _ => pm_iload_n (pc := 131) d_Mo_shape_131 rfl) ?_
  refine px (fun _ => pm_iconst (v := 4) (pc := 132) d_Mo_shape_132 rfl) ?_
  refine pxb (fun _ => pm_icmp_lt (pc := 133) (tgt := 142) d_Mo_shape_133 (by decide)) (fun c_1 => absurd c_1 (by decide)) (fun c_1 => ?_)
  refine px (fun _ => pm_iload_n (pc := 136) d_Mo_shape_136 rfl) ?_
  refine px (fun _ => pm_bipush (v := 8) (pc := 137) d_Mo_shape_137 rfl) ?_
  refine pxn (fun _ => pm_icmp_ne (pc := 139) (tgt := 213) d_Mo_shape_139 (by decide)) (fun c_2 => ?_) (fun c_2 => absurd c_2 (by decide))
  refine px (fun _ => pm_iload_n (pc := 213) d_Mo_shape_213 rfl) ?_
  refine px (fun _ => pm_iconst (v := 4) (pc := 214) d_Mo_shape_214 rfl) ?_
  refine pxn (fun _ => pm_icmp_ne (pc := 215) (tgt := 259) d_Mo_shape_215 (by decide)) (fun c_3 => ?_) (fun c_3 => absurd c_3 (by decide))
  refine px (fun _ => pm_iload_n (pc := 259) d_Mo_shape_259 rfl) ?_
  refine px (fun _ => pm_iconst (v := 5) (pc := 260) d_Mo_shape_260 rfl) ?_
  refine pxb (fun _ => pm_icmp_eq (pc := 261) (tgt := 270) d_Mo_shape_261 (by decide)) (fun c_4 => absurd c_4 (by decide)) (fun c_4 => ?_)
  refine px (fun _ => pm_iload_n (pc := 264) d_Mo_shape_264 rfl) ?_
  refine px (fun _ => pm_bipush (v := 18) (pc := 265) d_Mo_shape_265 rfl) ?_
  refine pxn (fun _ => pm_icmp_ne (pc := 267) (tgt := 294) d_Mo_shape_267 (by decide)) (fun c_5 => ?_) (fun c_5 => absurd c_5 (by decide))
  refine px (fun _ => pm_iload_n (pc := 294) d_Mo_shape_294 rfl) ?_
  refine px (fun _ => pm_bipush (v := 6) (pc := 295) d_Mo_shape_295 rfl) ?_
  refine pxn (fun _ => pm_icmp_ne (pc := 297) (tgt := 316) d_Mo_shape_297 (by decide)) (fun c_6 => ?_) (fun c_6 => absurd c_6 (by decide))
  refine px (fun _ => pm_iload_n (pc := 316) d_Mo_shape_316 rfl) ?_
  refine px (fun _ => pm_bipush (v := 7) (pc := 317) d_Mo_shape_317 rfl) ?_
  refine pxn (fun _ => pm_icmp_ne (pc := 319) (tgt := 361) d_Mo_shape_319 (by decide)) (fun c_7 => ?_) (fun c_7 => absurd c_7 (by decide))
  refine px (fun _ => pm_iload_n (pc := 361) d_Mo_shape_361 rfl) ?_
  refine px (fun _ => pm_bipush (v := 9) (pc := 362) d_Mo_shape_362 rfl) ?_
  refine pxn (fun _ => pm_icmp_ne (pc := 364) (tgt := 503) d_Mo_shape_364 (by decide)) (fun c_8 => ?_) (fun c_8 => absurd c_8 (by decide))
  refine px (fun _ => pm_iload_n (pc := 503) d_Mo_shape_503 rfl) ?_
  refine px (fun _ => pm_bipush (v := 10) (pc := 504) d_Mo_shape_504 rfl) ?_
  refine pxb (fun _ => pm_icmp_eq (pc := 506) (tgt := 515) d_Mo_shape_506 (by decide)) (fun c_9 => absurd c_9 (by decide)) (fun c_9 => ?_)
  refine px (fun _ => pm_iload_n (pc := 509) d_Mo_shape_509 rfl) ?_
  refine px (fun _ => pm_bipush (v := 11) (pc := 510) d_Mo_shape_510 rfl) ?_
  refine pxn (fun _ => pm_icmp_ne (pc := 512) (tgt := 580) d_Mo_shape_512 (by decide)) (fun c_10 => ?_) (fun c_10 => absurd c_10 (by decide))
  refine px (fun _ => pm_iload_n (pc := 580) d_Mo_shape_580 rfl) ?_
  refine px (fun _ => pm_bipush (v := 12) (pc := 581) d_Mo_shape_581 rfl) ?_
  refine pxn (fun _ => pm_icmp_ne (pc := 583) (tgt := 596) d_Mo_shape_583 (by decide)) (fun c_11 => ?_) (fun c_11 => absurd c_11 (by decide))
  refine px (fun _ => pm_iload_n (pc := 596) d_Mo_shape_596 rfl) ?_
  refine px (fun _ => pm_bipush (v := 13) (pc := 597) d_Mo_shape_597 rfl) ?_
  refine pxn (fun _ => pm_icmp_ne (pc := 599) (tgt := 721) d_Mo_shape_599 (by decide)) (fun c_12 => absurd (by decide) c_12) (fun c_12 => ?_)
  refine px (fun _ => pm_iload (pc := 602) d_Mo_shape_602 rfl) ?_
  refine pxb (fun _ => pm_if_eq (pc := 604) (tgt := 622) d_Mo_shape_604 (by decide)) (fun c_13 => ?_) (fun c_13 => ?_)
  · have n_c_13 : ¬ (gT S a 0 = gT S b 0) := g_if0.mp c_13
    refine px (fun _ => pm_iconst (v := 0) (pc := 622) d_Mo_shape_622 rfl) ?_
    exact pxr (pm_iret (pc := 623) d_Mo_shape_623 rfl rfl) (m_PX_0 H (mFr.rf _) (by first | (exact if_neg (by first | omega | assumption)) | (rw [if_pos (by first | omega | assumption)]; exact if_neg (by first | omega | assumption)) | (rw [if_pos (by first | omega | assumption), if_pos (by first | omega | assumption)]; exact g_sh_n (by first | omega | assumption))))
  · have n_c_13 : gT S a 0 = gT S b 0 := Decidable.byContradiction fun q => c_13 (g_if0.mpr q)
    refine px (fun _ => pm_aload_n (pc := 607) d_Mo_shape_607 rfl) ?_
    refine px (fun _ => pm_aload_n (pc := 608) d_Mo_shape_608 rfl) ?_
    refine px (fun _ => pm_getf fl_Mo_35 (pc := 609) d_Mo_shape_609 H.1 rfl) ?_
    refine px (fun _ => pm_iload_n (pc := 612) d_Mo_shape_612 rfl) ?_
    refine px (fun _ => pm_iald (j := n) (pc := 613) d_Mo_shape_613 H.2.2.2.2.2.2.2.2.2.1 (rfl) (hn) (by decide)) ?_
    rw [hp]
    refine px (fun _ => pm_iconst (v := 0) (pc := 614) d_Mo_shape_614 rfl) ?_
    refine px (fun _ => pm_iconst (v := 1) (pc := 615) d_Mo_shape_615 rfl) ?_
    refine px (fun _ => k_Mo_shape_616 (kc1 := 0) (ks1 := 0) (kc := 0) (ks := 0) (av := [.int (1), .int (0), .int (1)]) (st := []) H.1 (m_out_in hl H (by decide) (by decide)) rfl rfl (Nat.le_of_ble_eq_true rfl)) ?_
    refine pxb (fun _ => pm_if_eq (pc := 619) (tgt := 624) d_Mo_shape_619 (by decide)) (fun c_14 => ?_) (fun c_14 => absurd (by decide) c_14)
    refine px (fun _ => pm_aload_n (pc := 624) d_Mo_shape_624 rfl) ?_
    refine px (fun _ => pm_getf fl_Mo_35 (pc := 625) d_Mo_shape_625 H.1 rfl) ?_
    refine px (fun _ => pm_iload_n (pc := 628) d_Mo_shape_628 rfl) ?_
    refine px (fun _ => pm_iald (j := n) (pc := 629) d_Mo_shape_629 H.2.2.2.2.2.2.2.2.2.1 (rfl) (hn) (by decide)) ?_
    rw [hp]
    refine pxn (fun _ => pm_if_ne (pc := 630) (tgt := 677) d_Mo_shape_630 (by decide)) (fun c_15 => ?_) (fun c_15 => absurd c_15 (by decide))
    refine px (fun _ => pm_iload (pc := 677) d_Mo_shape_677 rfl) ?_
    refine px (fun _ => pm_aload_n (pc := 679) d_Mo_shape_679 rfl) ?_
    refine px (fun _ => pm_getf fl_Mo_16 (pc := 680) d_Mo_shape_680 H.1 rfl) ?_
    refine px (fun _ => pm_iload (pc := 683) d_Mo_shape_683 rfl) ?_
    refine px (fun _ => pm_iald (j := b) (pc := 685) d_Mo_shape_685 H.2.2.2.1 (rfl) (hb) (by decide)) ?_
    rw [tb.2.1]
    refine pxn (fun _ => pm_icmp_ne (pc := 686) (tgt := 719) d_Mo_shape_686 (by decide)) (fun c_16 => ?_) (fun c_16 => ?_)
    · have n_c_16 : ¬ ((gT S a 1) = (gT S b 1)) := fun zq => c_16 ((nI_eq (a := (gT S a 1)) (b := (gT S b 1)) (by omega) (by omega)).mpr zq)
      refine px (fun _ => pm_iconst (v := 0) (pc := 719) d_Mo_shape_719 rfl) ?_
      exact pxr (pm_iret (pc := 720) d_Mo_shape_720 rfl rfl) (m_PX_0 H (mFr.rf _) (by first | (exact if_neg (by first | omega | assumption)) | (rw [if_pos (by first | omega | assumption)]; exact if_neg (by first | omega | assumption)) | (rw [if_pos (by first | omega | assumption), if_pos (by first | omega | assumption)]; exact g_sh_n (by first | omega | assumption))))
    · have n_c_16 : (gT S a 1) = (gT S b 1) := (nI_eq (a := (gT S a 1)) (b := (gT S b 1)) (by omega) (by omega)).mp c_16
      refine px (fun _ => pm_aload_n (pc := 689) d_Mo_shape_689 rfl) ?_
      refine px (fun _ => pm_iload_n (pc := 690) d_Mo_shape_690 rfl) ?_
      refine px (fun _ => pm_aload_n (pc := 691) d_Mo_shape_691 rfl) ?_
      refine px (fun _ => pm_getf fl_Mo_13 (pc := 692) d_Mo_shape_692 H.1 rfl) ?_
      refine px (fun _ => pm_iload_n (pc := 695) d_Mo_shape_695 rfl) ?_
      refine px (fun _ => pm_iald (j := a) (pc := 696) d_Mo_shape_696 H.2.2.1 (rfl) (ha) (by decide)) ?_
      rw [ta.1]
      refine px (fun _ => pm_iload (pc := 697) d_Mo_shape_697 rfl) ?_
      refine px (fun _ => pm_iload (pc := 699) d_Mo_shape_699 rfl) ?_
      refine px (fun _ => pm_aload_n (pc := 701) d_Mo_shape_701 rfl) ?_
      refine px (fun _ => pm_getf fl_Mo_19 (pc := 702) d_Mo_shape_702 H.1 rfl) ?_
      refine px (fun _ => pm_iload (pc := 705) d_Mo_shape_705 rfl) ?_
      refine px (fun _ => pm_iald (j := b) (pc := 707) d_Mo_shape_707 H.2.2.2.2.1 (rfl) (hb) (by decide)) ?_
      rw [tb.2.2]
      refine px (fun _ => pm_iaddN (a := (gT S a 2)) (b := (gT S b 2)) (pc := 708) d_Mo_shape_708) ?_
      obtain ⟨⟨o17, h17⟩, ⟨e17, H17, F17⟩, en17⟩ := m_give (l := l) (G := G) (fi := fi) (T := T) (t := (gT S a 0)) (r := (gT S a 1)) (c := ((gT S a 2) + (gT S b 2))) hl H hn ho ho9 (by omega) (by omega)
      dsimp only at e17 H17 F17
      subst e17
      refine px (fun _ => k_Mo_shape_709 (kc1 := 0) (ks1 := 0) (kc := 0) (ks := 0) (av := [.int (nI n), .int (nI (gT S a 0)), .int (nI (gT S a 1)), .int (nI ((gT S a 2) + (gT S b 2)))]) (st := []) H.1 (en17) rfl rfl (Nat.le_of_ble_eq_true rfl)) ?_
      refine pxb (fun _ => pm_if_eq (pc := 712) (tgt := 719) d_Mo_shape_712 (by decide)) (fun c_18 => ?_) (fun c_18 => ?_)
      · have n_c_18 : ¬ ((1 ≤ (gT S a 1) ∧ (gT S a 1) ≤ 4) ∧ 1 ≤ ((gT S a 2) + (gT S b 2)) ∧ ((gT S a 2) + (gT S b 2)) ≤ 4) := g_if0.mp c_18
        refine px (fun _ => pm_iconst (v := 0) (pc := 719) d_Mo_shape_719 rfl) ?_
        exact pxr (pm_iret (pc := 720) d_Mo_shape_720 rfl rfl) (m_PX_n H17 (F17) (by first | (exact if_neg (by first | omega | assumption)) | (rw [if_pos (by first | omega | assumption)]; exact if_neg (by first | omega | assumption)) | (rw [if_pos (by first | omega | assumption), if_pos (by first | omega | assumption)]; exact g_sh_n (by first | omega | assumption))))
      · have n_c_18 : (1 ≤ (gT S a 1) ∧ (gT S a 1) ≤ 4) ∧ 1 ≤ ((gT S a 2) + (gT S b 2)) ∧ ((gT S a 2) + (gT S b 2)) ≤ 4 := Decidable.byContradiction fun q => c_18 (g_if0.mpr q)
        refine px (fun _ => pm_iconst (v := 1) (pc := 715) d_Mo_shape_715 rfl) ?_
        refine px (fun _ => pm_goto (tgt := 720) (pc := 716) d_Mo_shape_716 (by decide)) ?_
        exact pxr (pm_iret (pc := 720) d_Mo_shape_720 rfl rfl) (m_PX_y H17 (F17) (by rw [if_pos (by first | omega | assumption), if_pos (by first | omega | assumption)]; exact g_sh_y (by first | omega | assumption)))
set_option maxHeartbeats 1000000 in
set_option maxRecDepth 20000 in
theorem sh_13_n {l : Launch} {G : pm_G} {fi : Bool} {h : pm_H} {S : gS} {T : mS} {n a b o9 : Nat}  (hl : l.stackTraces = false) (H : mH T h) (hn : n < 14) (hop : mA T 6 n = 13) (ea : mQ T 12 (n * 3) = nI a) (ha : a < 20) (ta : mTb S T a) (ra : g_rng S a) (eb : mQ T 12 (n * 3 + 1) = nI b) (hb : b < 20) (tb : mTb S T b) (rb : g_rng S b) (ho : mA T 7 n = o9) (ho9 : o9 < 20) (hp : ¬ (mQ T 8 n = 0 ∨ mQ T 8 n = 1)) : pm_Cn l G fi fi 0 0 M_Mo_shape [.ref 95, .int (nI n)] h (m_PX T o9 h (none)) := by
  refine pm_Cn.of hl (by decide) (Nat.le_of_ble_eq_true rfl) ?_
  obtain ⟨r1, r2, r3, r4, r5⟩ := id ra
  obtain ⟨s1, s2, s3, s4, s5⟩ := id rb
  refine sh_pre2 hl H hn hop ea ha ta ra eb hb tb rb (by decide) (by decide) ?_
  refine px (fun _ => pm_iload_n (pc := 131) d_Mo_shape_131 rfl) ?_
  refine px (fun _ => pm_iconst (v := 4) (pc := 132) d_Mo_shape_132 rfl) ?_
  refine pxb (fun _ => pm_icmp_lt (pc := 133) (tgt := 142) d_Mo_shape_133 (by decide)) (fun c_1 => absurd c_1 (by decide)) (fun c_1 => ?_)
  refine px (fun _ => pm_iload_n (pc := 136) d_Mo_shape_136 rfl) ?_
  refine px (fun _ => pm_bipush (v := 8) (pc := 137) d_Mo_shape_137 rfl) ?_
  refine pxn (fun _ => pm_icmp_ne (pc := 139) (tgt := 213) d_Mo_shape_139 (by decide)) (fun c_2 => ?_) (fun c_2 => absurd c_2 (by decide))
  refine px (fun _ => pm_iload_n (pc := 213) d_Mo_shape_213 rfl) ?_
  refine px (fun _ => pm_iconst (v := 4) (pc := 214) d_Mo_shape_214 rfl) ?_
  refine pxn (fun _ => pm_icmp_ne (pc := 215) (tgt := 259) d_Mo_shape_215 (by decide)) (fun c_3 => ?_) (fun c_3 => absurd c_3 (by decide))
  refine px (fun _ => pm_iload_n (pc := 259) d_Mo_shape_259 rfl) ?_
  refine px (fun _ => pm_iconst (v := 5) (pc := 260) d_Mo_shape_260 rfl) ?_
  refine pxb (fun _ => pm_icmp_eq (pc := 261) (tgt := 270) d_Mo_shape_261 (by decide)) (fun c_4 => absurd c_4 (by decide)) (fun c_4 => ?_)
  refine px (fun _ => pm_iload_n (pc := 264) d_Mo_shape_264 rfl) ?_
  refine px (fun _ => pm_bipush (v := 18) (pc := 265) d_Mo_shape_265 rfl) ?_
  refine pxn (fun _ => pm_icmp_ne (pc := 267) (tgt := 294) d_Mo_shape_267 (by decide)) (fun c_5 => ?_) (fun c_5 => absurd c_5 (by decide))
  refine px (fun _ => pm_iload_n (pc := 294) d_Mo_shape_294 rfl) ?_
  refine px (fun _ => pm_bipush (v := 6) (pc := 295) d_Mo_shape_295 rfl) ?_
  refine pxn (fun _ => pm_icmp_ne (pc := 297) (tgt := 316) d_Mo_shape_297 (by decide)) (fun c_6 => ?_) (fun c_6 => absurd c_6 (by decide))
  refine px (fun _ => pm_iload_n (pc := 316) d_Mo_shape_316 rfl) ?_
  refine px (fun _ => pm_bipush (v := 7) (pc := 317) d_Mo_shape_317 rfl) ?_
  refine pxn (fun _ => pm_icmp_ne (pc := 319) (tgt := 361) d_Mo_shape_319 (by decide)) (fun c_7 => ?_) (fun c_7 => absurd c_7 (by decide))
  refine px (fun _ => pm_iload_n (pc := 361) d_Mo_shape_361 rfl) ?_
  refine px (fun _ => pm_bipush (v := 9) (pc := 362) d_Mo_shape_362 rfl) ?_
  refine pxn (fun _ => pm_icmp_ne (pc := 364) (tgt := 503) d_Mo_shape_364 (by decide)) (fun c_8 => ?_) (fun c_8 => absurd c_8 (by decide))
  refine px (fun _ => pm_iload_n (pc := 503) d_Mo_shape_503 rfl) ?_
  refine px (fun _ => pm_bipush (v := 10) (pc := 504) d_Mo_shape_504 rfl) ?_
  refine pxb (fun _ => pm_icmp_eq (pc := 506) (tgt := 515) d_Mo_shape_506 (by decide)) (fun c_9 => absurd c_9 (by decide)) (fun c_9 => ?_)
  refine px (fun _ => pm_iload_n (pc := 509) d_Mo_shape_509 rfl) ?_
  refine px (fun _ => pm_bipush (v := 11) (pc := 510) d_Mo_shape_510 rfl) ?_
  refine pxn (fun _ => pm_icmp_ne (pc := 512) (tgt := 580) d_Mo_shape_512 (by decide)) (fun c_10 => ?_) (fun c_10 => absurd c_10 (by decide))
  refine px (fun _ => pm_iload_n (pc := 580) d_Mo_shape_580 rfl) ?_
  refine px (fun _ => pm_bipush (v := 12) (pc := 581) d_Mo_shape_581 rfl) ?_
  refine pxn (fun _ => pm_icmp_ne (pc := 583) (tgt := 596) d_Mo_shape_583 (by decide)) (fun c_11 => ?_) (fun c_11 => absurd c_11 (by decide))
  refine px (fun _ => pm_iload_n (pc := 596) d_Mo_shape_596 rfl) ?_
  refine px (fun _ => pm_bipush (v := 13) (pc := 597) d_Mo_shape_597 rfl) ?_
  refine pxn (fun _ => pm_icmp_ne (pc := 599) (tgt := 721) d_Mo_shape_599 (by decide)) (fun c_12 => absurd (by decide) c_12) (fun c_12 => ?_)
  refine px (fun _ => pm_iload (pc := 602) d_Mo_shape_602 rfl) ?_
  refine pxb (fun _ => pm_if_eq (pc := 604) (tgt := 622) d_Mo_shape_604 (by decide)) (fun c_13 => ?_) (fun c_13 => ?_)
  · have n_c_13 : ¬ (gT S a 0 = gT S b 0) := g_if0.mp c_13
    refine px (fun _ => pm_iconst (v := 0) (pc := 622) d_Mo_shape_622 rfl) ?_
    exact pxr (pm_iret (pc := 623) d_Mo_shape_623 rfl rfl) (m_PX_0 H (mFr.rf _) (rfl))
  · have n_c_13 : gT S a 0 = gT S b 0 := Decidable.byContradiction fun q => c_13 (g_if0.mpr q)
    refine px (fun _ => pm_aload_n (pc := 607) d_Mo_shape_607 rfl) ?_
    refine px (fun _ => pm_aload_n (pc := 608) d_Mo_shape_608 rfl) ?_
    refine px (fun _ => pm_getf fl_Mo_35 (pc := 609) d_Mo_shape_609 H.1 rfl) ?_
    refine px (fun _ => pm_iload_n (pc := 612) d_Mo_shape_612 rfl) ?_
    refine px (fun _ => pm_iald (j := n) (pc := 613) d_Mo_shape_613 H.2.2.2.2.2.2.2.2.2.1 (rfl) (hn) (by decide)) ?_
    refine px (fun _ => pm_iconst (v := 0) (pc := 614) d_Mo_shape_614 rfl) ?_
    refine px (fun _ => pm_iconst (v := 1) (pc := 615) d_Mo_shape_615 rfl) ?_
    refine px (fun _ => k_Mo_shape_616 (kc1 := 0) (ks1 := 0) (kc := 0) (ks := 0) (av := [.int ((mQ T 8) (n)), .int (0), .int (1)]) (st := []) H.1 (m_out_out hl H (fun q => hp (g_ty01 q))) rfl rfl (Nat.le_of_ble_eq_true rfl)) ?_
    refine pxb (fun _ => pm_if_eq (pc := 619) (tgt := 624) d_Mo_shape_619 (by decide)) (fun c_14 => absurd c_14 (by decide)) (fun c_14 => ?_)
    refine px (fun _ => pm_iconst (v := 0) (pc := 622) d_Mo_shape_622 rfl) ?_
    exact pxr (pm_iret (pc := 623) d_Mo_shape_623 rfl rfl) (m_PX_0 H (mFr.rf _) (rfl))
set_option maxHeartbeats 1000000 in
set_option maxRecDepth 20000 in
theorem sh_14_ok {l : Launch} {G : pm_G} {fi : Bool} {h : pm_H} {S : gS} {T : mS} {n a o9 : Nat} {p q : Nat} (hl : l.stackTraces = false) (H : mH T h) (hn : n < 14) (hop : mA T 6 n = 14) (ea : mQ T 12 (n * 3) = nI a) (ha : a < 20) (ta : mTb S T a) (ra : g_rng S a) (ho : mA T 7 n = o9) (ho9 : o9 < 20) (hp : mQ T 8 n = nI p) (hq : mQ T 9 n = nI q) (pq : p ≤ q) (q8 : q ≤ 8) : pm_Cn l G fi fi 0 0 M_Mo_shape [.ref 95, .int (nI n)] h (m_PX T o9 h (if q < gT S a 1 then g_sh (gT S a 0) (q - p + 1) (gT S a 2) else none)) := by
  refine pm_Cn.of hl (by decide) (Nat.le_of_ble_eq_true rfl) ?_
  obtain ⟨r1, r2, r3, r4, r5⟩ := id ra
  refine sh_pre1 hl H hn hop ea ha ta ra (by decide) (by decide) ?_
  refine px (fun _ => pm_iload_n (pc := 131) d_Mo_shape_131 rfl) ?_
  refine px (fun _ => pm_iconst (v := 4) (pc := 132) d_Mo_shape_132 rfl) ?_
  refine pxb (fun _ => pm_icmp_lt (pc := 133) (tgt := 142) d_Mo_shape_133 (by decide)) (fun c_1 => absurd c_1 (by decide)) (fun c_1 => ?_)
  refine px (fun _ => pm_iload_n (pc := 136) d_Mo_shape_136 rfl) ?_
  refine px (fun _ => pm_bipush (v := 8) (pc := 137) d_Mo_shape_137 rfl) ?_
  refine pxn (fun _ => pm_icmp_ne (pc := 139) (tgt := 213) d_Mo_shape_139 (by decide)) (fun c_2 => ?_) (fun c_2 => absurd c_2 (by decide))
  refine px (fun _ => pm_iload_n (pc := 213) d_Mo_shape_213 rfl) ?_
  refine px (fun _ => pm_iconst (v := 4) (pc := 214) d_Mo_shape_214 rfl) ?_
  refine pxn (fun _ => pm_icmp_ne (pc := 215) (tgt := 259) d_Mo_shape_215 (by decide)) (fun c_3 => ?_) (fun c_3 => absurd c_3 (by decide))
  refine px (fun _ => pm_iload_n (pc := 259) d_Mo_shape_259 rfl) ?_
  refine px (fun _ => pm_iconst (v := 5) (pc := 260) d_Mo_shape_260 rfl) ?_
  refine pxb (fun _ => pm_icmp_eq (pc := 261) (tgt := 270) d_Mo_shape_261 (by decide)) (fun c_4 => absurd c_4 (by decide)) (fun c_4 => ?_)
  refine px (fun _ => pm_iload_n (pc := 264) d_Mo_shape_264 rfl) ?_
  refine px (fun _ => pm_bipush (v := 18) (pc := 265) d_Mo_shape_265 rfl) ?_
  refine pxn (fun _ => pm_icmp_ne (pc := 267) (tgt := 294) d_Mo_shape_267 (by decide)) (fun c_5 => ?_) (fun c_5 => absurd c_5 (by decide))
  refine px (fun _ => pm_iload_n (pc := 294) d_Mo_shape_294 rfl) ?_
  refine px (fun _ => pm_bipush (v := 6) (pc := 295) d_Mo_shape_295 rfl) ?_
  refine pxn (fun _ => pm_icmp_ne (pc := 297) (tgt := 316) d_Mo_shape_297 (by decide)) (fun c_6 => ?_) (fun c_6 => absurd c_6 (by decide))
  refine px (fun _ => pm_iload_n (pc := 316) d_Mo_shape_316 rfl) ?_
  refine px (fun _ => pm_bipush (v := 7) (pc := 317) d_Mo_shape_317 rfl) ?_
  refine pxn (fun _ => pm_icmp_ne (pc := 319) (tgt := 361) d_Mo_shape_319 (by decide)) (fun c_7 => ?_) (fun c_7 => absurd c_7 (by decide))
  refine px (fun _ => pm_iload_n (pc := 361) d_Mo_shape_361 rfl) ?_
  refine px (fun _ => pm_bipush (v := 9) (pc := 362) d_Mo_shape_362 rfl) ?_
  refine pxn (fun _ => pm_icmp_ne (pc := 364) (tgt := 503) d_Mo_shape_364 (by decide)) (fun c_8 => ?_) (fun c_8 => absurd c_8 (by decide))
  refine px (fun _ => pm_iload_n (pc := 503) d_Mo_shape_503 rfl) ?_
  refine px (fun _ => pm_bipush (v := 10) (pc := 504) d_Mo_shape_504 rfl) ?_
  refine pxb (fun _ => pm_icmp_eq (pc := 506) (tgt := 515) d_Mo_shape_506 (by decide)) (fun c_9 => absurd c_9 (by decide)) (fun c_9 => ?_)
  refine px (fun _ => pm_iload_n (pc := 509) d_Mo_shape_509 rfl) ?_
  refine px (fun _ => pm_bipush (v := 11) (pc := 510) d_Mo_shape_510 rfl) ?_
  refine pxn (fun _ => pm_icmp_ne (pc := 512) (tgt := 580) d_Mo_shape_512 (by decide)) (fun c_10 => ?_) (fun c_10 => absurd c_10 (by decide))
  refine px (fun _ => pm_iload_n (pc := 580) d_Mo_shape_580 rfl) ?_
  refine px (fun _ => pm_bipush (v := 12) (pc := 581) d_Mo_shape_581 rfl) ?_
  refine pxn (fun _ => pm_icmp_ne (pc := 583) (tgt := 596) d_Mo_shape_583 (by decide)) (fun c_11 => ?_) (fun c_11 => absurd c_11 (by decide))
  refine px (fun _ => pm_iload_n (pc := 596) d_Mo_shape_596 rfl) ?_
  refine px (fun _ => pm_bipush (v := 13) (pc := 597) d_Mo_shape_597 rfl) ?_
  refine pxn (fun _ => pm_icmp_ne (pc := 599) (tgt := 721) d_Mo_shape_599 (by decide)) (fun c_12 => ?_) (fun c_12 => absurd c_12 (by decide))
  refine px (fun _ => pm_iload_n (pc := 721) d_Mo_shape_721 rfl) ?_
  refine px (fun _ => pm_bipush (v := 14) (pc := 722) d_Mo_shape_722 rfl) ?_
  refine pxn (fun _ => pm_icmp_ne (pc := 724) (tgt := 799) d_Mo_shape_724 (by decide)) (fun c_13 => absurd (by decide) c_13) (fun c_13 => ?_)
  refine px (fun _ => pm_aload_n (pc := 727) d_Mo_shape_727 rfl) ?_
  refine px (fun _ => pm_getf fl_Mo_35 (pc := 728) d_Mo_shape_728 H.1 rfl) ?_
  refine px (fun _ => pm_iload_n (pc := 731) d_Mo_shape_731 rfl) ?_
  refine px (fun _ => pm_iald (j := n) (pc := 732) d_Mo_shape_732 H.2.2.2.2.2.2.2.2.2.1 (rfl) (hn) (by decide)) ?_
  rw [hp]
  refine pxb (fun _ => pm_if_lt (pc := 733) (tgt := 797) d_Mo_shape_733 (by decide)) (fun c_14 => absurd c_14 (nI_pos (by omega))) (fun c_14 => ?_)
  refine px (fun _ => pm_aload_n (pc := 736) d_Mo_shape_736 rfl) ?_
  refine px (fun _ => pm_getf fl_Mo_35 (pc := 737) d_Mo_shape_737 H.1 rfl) ?_
  refine px (fun _ => pm_iload_n (pc := 740) d_Mo_shape_740 rfl) ?_
  refine px (fun _ => pm_iald (j := n) (pc := 741) d_Mo_shape_741 H.2.2.2.2.2.2.2.2.2.1 (rfl) (hn) (by decide)) ?_
  rw [hp]
  refine px (fun _ => pm_aload_n (pc := 742) d_Mo_shape_742 rfl) ?_
  refine px (fun _ => pm_getf fl_Mo_38 (pc := 743) d_Mo_shape_743 H.1 rfl) ?_
  refine px (fun _ => pm_iload_n (pc := 746) d_Mo_shape_746 rfl) ?_
  refine px (fun _ => pm_iald (j := n) (pc := 747) d_Mo_shape_747 H.2.2.2.2.2.2.2.2.2.2.1 (rfl) (hn) (by decide)) ?_
  rw [hq]
  refine pxb (fun _ => pm_icmp_gt (pc := 748) (tgt := 797) d_Mo_shape_748 (by decide)) (fun c_15 => absurd c_15 (fun z => absurd ((nI_ltI (a := q) (b := p) (by omega) (by omega)).mp z) (by omega))) (fun c_15 => ?_)
  refine px (fun _ => pm_aload_n (pc := 751) d_Mo_shape_751 rfl) ?_
  refine px (fun _ => pm_getf fl_Mo_38 (pc := 752) d_Mo_shape_752 H.1 rfl) ?_
  refine px (fun _ => pm_iload_n (pc := 755) d_Mo_shape_755 rfl) ?_
  refine px (fun _ => pm_iald (j := n) (pc := 756) d_Mo_shape_756 H.2.2.2.2.2.2.2.2.2.2.1 (rfl) (hn) (by decide)) ?_
  rw [hq]
  refine px (fun _ => pm_iload (pc := 757) d_Mo_shape_757 rfl) ?_
  refine pxb (fun _ => pm_icmp_ge (pc := 759) (tgt := 797) d_Mo_shape_759 (by decide)) (fun c_16 => ?_) (fun c_16 => ?_)
  · have n_c_16 : (gT S a 1) ≤ q := (nI_leI (a := (gT S a 1)) (b := q) (by omega) (by omega)).mp c_16
    refine px (fun _ => pm_iconst (v := 0) (pc := 797) d_Mo_shape_797 rfl) ?_
    exact pxr (pm_iret (pc := 798) d_Mo_shape_798 rfl rfl) (m_PX_0 H (mFr.rf _) (by first | (exact if_neg (by first | omega | assumption)) | (rw [if_pos (by first | omega | assumption)]; exact g_sh_n (by first | omega | assumption))))
  · have n_c_16 : ¬ ((gT S a 1) ≤ q) := fun zq => c_16 ((nI_leI (a := (gT S a 1)) (b := q) (by omega) (by omega)).mpr zq)
    refine px (fun _ => pm_aload_n (pc := 762) d_Mo_shape_762 rfl) ?_
    refine px (fun _ => pm_iload_n (pc := 763) d_Mo_shape_763 rfl) ?_
    refine px (fun _ => pm_aload_n (pc := 764) d_Mo_shape_764 rfl) ?_
    refine px (fun _ => pm_getf fl_Mo_13 (pc := 765) d_Mo_shape_765 H.1 rfl) ?_
    refine px (fun _ => pm_iload_n (pc := 768) d_Mo_shape_768 rfl) ?_
    refine px (fun _ => pm_iald (j := a) (pc := 769) d_Mo_shape_769 H.2.2.1 (rfl) (ha) (by decide)) ?_
    rw [ta.1]
    refine px (fun _ => pm_aload_n (pc := 770) d_Mo_shape_770 rfl) ?_
    refine px (fun _ => pm_getf fl_Mo_38 (pc := 771) d_Mo_shape_771 H.1 rfl) ?_
    refine px (fun _ => pm_iload_n (pc := 774) d_Mo_shape_774 rfl) ?_
    refine px (fun _ => pm_iald (j := n) (pc := 775) d_Mo_shape_775 H.2.2.2.2.2.2.2.2.2.2.1 (rfl) (hn) (by decide)) ?_
    rw [hq]
    refine px (fun _ => pm_aload_n (pc := 776) d_Mo_shape_776 rfl) ?_
    refine px (fun _ => pm_getf fl_Mo_35 (pc := 777) d_Mo_shape_777 H.1 rfl) ?_
    refine px (fun _ => pm_iload_n (pc := 780) d_Mo_shape_780 rfl) ?_
    refine px (fun _ => pm_iald (j := n) (pc := 781) d_Mo_shape_781 H.2.2.2.2.2.2.2.2.2.1 (rfl) (hn) (by decide)) ?_
    rw [hp]
    refine px (fun _ => pm_isubN (a := q) (b := p) (pc := 782) d_Mo_shape_782 (by omega)) ?_
    refine px (fun _ => pm_iconst (v := 1) (pc := 783) d_Mo_shape_783 rfl) ?_
    refine px (fun _ => pm_iaddN (a := (q - p)) (b := 1) (pc := 784) d_Mo_shape_784) ?_
    refine px (fun _ => pm_iload (pc := 785) d_Mo_shape_785 rfl) ?_
    obtain ⟨⟨o17, h17⟩, ⟨e17, H17, F17⟩, en17⟩ := m_give (l := l) (G := G) (fi := fi) (T := T) (t := (gT S a 0)) (r := ((q - p) + 1)) (c := (gT S a 2)) hl H hn ho ho9 (by omega) (by omega)
    dsimp only at e17 H17 F17
    subst e17
    refine px (fun _ => k_Mo_shape_787 (kc1 := 0) (ks1 := 0) (kc := 0) (ks := 0) (av := [.int (nI n), .int (nI (gT S a 0)), .int (nI ((q - p) + 1)), .int (nI (gT S a 2))]) (st := []) H.1 (en17) rfl rfl (Nat.le_of_ble_eq_true rfl)) ?_
    refine pxb (fun _ => pm_if_eq (pc := 790) (tgt := 797) d_Mo_shape_790 (by decide)) (fun c_18 => ?_) (fun c_18 => ?_)
    · have n_c_18 : ¬ ((1 ≤ ((q - p) + 1) ∧ ((q - p) + 1) ≤ 4) ∧ 1 ≤ (gT S a 2) ∧ (gT S a 2) ≤ 4) := g_if0.mp c_18
      refine px (fun _ => pm_iconst (v := 0) (pc := 797) d_Mo_shape_797 rfl) ?_
      exact pxr (pm_iret (pc := 798) d_Mo_shape_798 rfl rfl) (m_PX_n H17 (F17) (by first | (exact if_neg (by first | omega | assumption)) | (rw [if_pos (by first | omega | assumption)]; exact g_sh_n (by first | omega | assumption))))
    · have n_c_18 : (1 ≤ ((q - p) + 1) ∧ ((q - p) + 1) ≤ 4) ∧ 1 ≤ (gT S a 2) ∧ (gT S a 2) ≤ 4 := Decidable.byContradiction fun q => c_18 (g_if0.mpr q)
      refine px (fun _ => pm_iconst (v := 1) (pc := 793) d_Mo_shape_793 rfl) ?_
      refine px (fun _ => pm_goto (tgt := 798) (pc := 794) d_Mo_shape_794 (by decide)) ?_
      exact pxr (pm_iret (pc := 798) d_Mo_shape_798 rfl rfl) (m_PX_y H17 (F17) (by rw [if_pos (by first | omega | assumption)]; exact g_sh_y (by first | omega | assumption)))
set_option maxHeartbeats 1000000 in
set_option maxRecDepth 20000 in
theorem sh_14_a {l : Launch} {G : pm_G} {fi : Bool} {h : pm_H} {S : gS} {T : mS} {n a o9 : Nat}  (hl : l.stackTraces = false) (H : mH T h) (hn : n < 14) (hop : mA T 6 n = 14) (ea : mQ T 12 (n * 3) = nI a) (ha : a < 20) (ta : mTb S T a) (ra : g_rng S a) (ho : mA T 7 n = o9) (ho9 : o9 < 20) (hp : mQ T 8 n < 0) : pm_Cn l G fi fi 0 0 M_Mo_shape [.ref 95, .int (nI n)] h (m_PX T o9 h (none)) := by
  refine pm_Cn.of hl (by decide) (Nat.le_of_ble_eq_true rfl) ?_
  obtain ⟨r1, r2, r3, r4, r5⟩ := id ra
  refine sh_pre1 hl H hn hop ea ha ta ra (by decide) (by decide) ?_
  refine px (fun _ => pm_iload_n (pc := 131) d_Mo_shape_131 rfl) ?_
  refine px (fun _ => pm_iconst (v := 4) (pc := 132) d_Mo_shape_132 rfl) ?_
  refine pxb (fun _ => pm_icmp_lt (pc := 133) (tgt := 142) d_Mo_shape_133 (by decide)) (fun c_1 => absurd c_1 (by decide)) (fun c_1 => ?_)
  refine px (fun _ => pm_iload_n (pc := 136) d_Mo_shape_136 rfl) ?_
  refine px (fun _ => pm_bipush (v := 8) (pc := 137) d_Mo_shape_137 rfl) ?_
  refine pxn (fun _ => pm_icmp_ne (pc := 139) (tgt := 213) d_Mo_shape_139 (by decide)) (fun c_2 => ?_) (fun c_2 => absurd c_2 (by decide))
  refine px (fun _ => pm_iload_n (pc := 213) d_Mo_shape_213 rfl) ?_
  refine px (fun _ => pm_iconst (v := 4) (pc := 214) d_Mo_shape_214 rfl) ?_
  refine pxn (fun _ => pm_icmp_ne (pc := 215) (tgt := 259) d_Mo_shape_215 (by decide)) (fun c_3 => ?_) (fun c_3 => absurd c_3 (by decide))
  refine px (fun _ => pm_iload_n (pc := 259) d_Mo_shape_259 rfl) ?_
  refine px (fun _ => pm_iconst (v := 5) (pc := 260) d_Mo_shape_260 rfl) ?_
  refine pxb (fun _ => pm_icmp_eq (pc := 261) (tgt := 270) d_Mo_shape_261 (by decide)) (fun c_4 => absurd c_4 (by decide)) (fun c_4 => ?_)
  refine px (fun _ => pm_iload_n (pc := 264) d_Mo_shape_264 rfl) ?_
  refine px (fun _ => pm_bipush (v := 18) (pc := 265) d_Mo_shape_265 rfl) ?_
  refine pxn (fun _ => pm_icmp_ne (pc := 267) (tgt := 294) d_Mo_shape_267 (by decide)) (fun c_5 => ?_) (fun c_5 => absurd c_5 (by decide))
  refine px (fun _ => pm_iload_n (pc := 294) d_Mo_shape_294 rfl) ?_
  refine px (fun _ => pm_bipush (v := 6) (pc := 295) d_Mo_shape_295 rfl) ?_
  refine pxn (fun _ => pm_icmp_ne (pc := 297) (tgt := 316) d_Mo_shape_297 (by decide)) (fun c_6 => ?_) (fun c_6 => absurd c_6 (by decide))
  refine px (fun _ => pm_iload_n (pc := 316) d_Mo_shape_316 rfl) ?_
  refine px (fun _ => pm_bipush (v := 7) (pc := 317) d_Mo_shape_317 rfl) ?_
  refine pxn (fun _ => pm_icmp_ne (pc := 319) (tgt := 361) d_Mo_shape_319 (by decide)) (fun c_7 => ?_) (fun c_7 => absurd c_7 (by decide))
  refine px (fun _ => pm_iload_n (pc := 361) d_Mo_shape_361 rfl) ?_
  refine px (fun _ => pm_bipush (v := 9) (pc := 362) d_Mo_shape_362 rfl) ?_
  refine pxn (fun _ => pm_icmp_ne (pc := 364) (tgt := 503) d_Mo_shape_364 (by decide)) (fun c_8 => ?_) (fun c_8 => absurd c_8 (by decide))
  refine px (fun _ => pm_iload_n (pc := 503) d_Mo_shape_503 rfl) ?_
  refine px (fun _ => pm_bipush (v := 10) (pc := 504) d_Mo_shape_504 rfl) ?_
  refine pxb (fun _ => pm_icmp_eq (pc := 506) (tgt := 515) d_Mo_shape_506 (by decide)) (fun c_9 => absurd c_9 (by decide)) (fun c_9 => ?_)
  refine px (fun _ => pm_iload_n (pc := 509) d_Mo_shape_509 rfl) ?_
  refine px (fun _ => pm_bipush (v := 11) (pc := 510) d_Mo_shape_510 rfl) ?_
  refine pxn (fun _ => pm_icmp_ne (pc := 512) (tgt := 580) d_Mo_shape_512 (by decide)) (fun c_10 => ?_) (fun c_10 => absurd c_10 (by decide))
  refine px (fun _ => pm_iload_n (pc := 580) d_Mo_shape_580 rfl) ?_
  refine px (fun _ => pm_bipush (v := 12) (pc := 581) d_Mo_shape_581 rfl) ?_
  refine pxn (fun _ => pm_icmp_ne (pc := 583) (tgt := 596) d_Mo_shape_583 (by decide)) (fun c_11 => ?_) (fun c_11 => absurd c_11 (by decide))
  refine px (fun _ => pm_iload_n (pc := 596) d_Mo_shape_596 rfl) ?_
  refine px (fun _ => pm_bipush (v := 13) (pc := 597) d_Mo_shape_597 rfl) ?_
  refine pxn (fun _ => pm_icmp_ne (pc := 599) (tgt := 721) d_Mo_shape_599 (by decide)) (fun c_12 => ?_) (fun c_12 => absurd c_12 (by decide))
  refine px (fun _ => pm_iload_n (pc := 721) d_Mo_shape_721 rfl) ?_
  refine px (fun _ => pm_bipush (v := 14) (pc := 722) d_Mo_shape_722 rfl) ?_
  refine pxn (fun _ => pm_icmp_ne (pc := 724) (tgt := 799) d_Mo_shape_724 (by decide)) (fun c_13 => absurd (by decide) c_13) (fun c_13 => ?_)
  refine px (fun _ => pm_aload_n (pc := 727) d_Mo_shape_727 rfl) ?_
  refine px (fun _ => pm_getf fl_Mo_35 (pc := 728) d_Mo_shape_728 H.1 rfl) ?_
  refine px (fun _ => pm_iload_n (pc := 731) d_Mo_shape_731 rfl) ?_
  refine px (fun _ => pm_iald (j := n) (pc := 732) d_Mo_shape_732 H.2.2.2.2.2.2.2.2.2.1 (rfl) (hn) (by decide)) ?_
  refine pxb (fun _ => pm_if_lt (pc := 733) (tgt := 797) d_Mo_shape_733 (by decide)) (fun c_14 => ?_) (fun c_14 => absurd (hp) c_14)
  refine px (fun _ => pm_iconst (v := 0) (pc := 797) d_Mo_shape_797 rfl) ?_
  exact pxr (pm_iret (pc := 798) d_Mo_shape_798 rfl rfl) (m_PX_0 H (mFr.rf _) (rfl))
set_option maxHeartbeats 1000000 in
set_option maxRecDepth 20000 in
theorem sh_14_b {l : Launch} {G : pm_G} {fi : Bool} {h : pm_H} {S : gS} {T : mS} {n a o9 : Nat}  (hl : l.stackTraces = false) (H : mH T h) (hn : n < 14) (hop : mA T 6 n = 14) (ea : mQ T 12 (n * 3) = nI a) (ha : a < 20) (ta : mTb S T a) (ra : g_rng S a) (ho : mA T 7 n = o9) (ho9 : o9 < 20) (hp : ¬ mQ T 8 n < 0) (hq : mQ T 9 n < mQ T 8 n) : pm_Cn l G fi fi 0 0 M_Mo_shape [.ref 95, .int (nI n)] h (m_PX T o9 h (none)) := by
  refine pm_Cn.of hl (by decide) (Nat.le_of_ble_eq_true rfl) ?_
  obtain ⟨r1, r2, r3, r4, r5⟩ := id ra
  refine sh_pre1 hl H hn hop ea ha ta ra (by decide) (by decide) ?_
  refine px (fun _ => pm_iload_n (pc := 131) d_Mo_shape_131 rfl) ?_
  refine px (fun _ => pm_iconst (v := 4) (pc := 132) d_Mo_shape_132 rfl) ?_
  refine pxb (fun _ => pm_icmp_lt (pc := 133) (tgt := 142) d_Mo_shape_133 (by decide)) (fun c_1 => absurd c_1 (by decide)) (fun c_1 => ?_)
  refine px (fun _ => pm_iload_n (pc := 136) d_Mo_shape_136 rfl) ?_
  refine px (fun _ => pm_bipush (v := 8) (pc := 137) d_Mo_shape_137 rfl) ?_
  refine pxn (fun _ => pm_icmp_ne (pc := 139) (tgt := 213) d_Mo_shape_139 (by decide)) (fun c_2 => ?_) (fun c_2 => absurd c_2 (by decide))
  refine px (fun _ => pm_iload_n (pc := 213) d_Mo_shape_213 rfl) ?_
  refine px (fun _ => pm_iconst (v := 4) (pc := 214) d_Mo_shape_214 rfl) ?_
  refine pxn (fun _ => pm_icmp_ne (pc := 215) (tgt := 259) d_Mo_shape_215 (by decide)) (fun c_3 => ?_) (fun c_3 => absurd c_3 (by decide))
  refine px (fun _ => pm_iload_n (pc := 259) d_Mo_shape_259 rfl) ?_
  refine px (fun _ => pm_iconst (v := 5) (pc := 260) d_Mo_shape_260 rfl) ?_
  refine pxb (fun _ => pm_icmp_eq (pc := 261) (tgt := 270) d_Mo_shape_261 (by decide)) (fun c_4 => absurd c_4 (by decide)) (fun c_4 => ?_)
  refine px (fun _ => pm_iload_n (pc := 264) d_Mo_shape_264 rfl) ?_
  refine px (fun _ => pm_bipush (v := 18) (pc := 265) d_Mo_shape_265 rfl) ?_
  refine pxn (fun _ => pm_icmp_ne (pc := 267) (tgt := 294) d_Mo_shape_267 (by decide)) (fun c_5 => ?_) (fun c_5 => absurd c_5 (by decide))
  refine px (fun _ => pm_iload_n (pc := 294) d_Mo_shape_294 rfl) ?_
  refine px (fun _ => pm_bipush (v := 6) (pc := 295) d_Mo_shape_295 rfl) ?_
  refine pxn (fun _ => pm_icmp_ne (pc := 297) (tgt := 316) d_Mo_shape_297 (by decide)) (fun c_6 => ?_) (fun c_6 => absurd c_6 (by decide))
  refine px (fun _ => pm_iload_n (pc := 316) d_Mo_shape_316 rfl) ?_
  refine px (fun _ => pm_bipush (v := 7) (pc := 317) d_Mo_shape_317 rfl) ?_
  refine pxn (fun _ => pm_icmp_ne (pc := 319) (tgt := 361) d_Mo_shape_319 (by decide)) (fun c_7 => ?_) (fun c_7 => absurd c_7 (by decide))
  refine px (fun _ => pm_iload_n (pc := 361) d_Mo_shape_361 rfl) ?_
  refine px (fun _ => pm_bipush (v := 9) (pc := 362) d_Mo_shape_362 rfl) ?_
  refine pxn (fun _ => pm_icmp_ne (pc := 364) (tgt := 503) d_Mo_shape_364 (by decide)) (fun c_8 => ?_) (fun c_8 => absurd c_8 (by decide))
  refine px (fun _ => pm_iload_n (pc := 503) d_Mo_shape_503 rfl) ?_
  refine px (fun _ => pm_bipush (v := 10) (pc := 504) d_Mo_shape_504 rfl) ?_
  refine pxb (fun _ => pm_icmp_eq (pc := 506) (tgt := 515) d_Mo_shape_506 (by decide)) (fun c_9 => absurd c_9 (by decide)) (fun c_9 => ?_)
  refine px (fun _ => pm_iload_n (pc := 509) d_Mo_shape_509 rfl) ?_
  refine px (fun _ => pm_bipush (v := 11) (pc := 510) d_Mo_shape_510 rfl) ?_
  refine pxn (fun _ => pm_icmp_ne (pc := 512) (tgt := 580) d_Mo_shape_512 (by decide)) (fun c_10 => ?_) (fun c_10 => absurd c_10 (by decide))
  refine px (fun _ => pm_iload_n (pc := 580) d_Mo_shape_580 rfl) ?_
  refine px (fun _ => pm_bipush (v := 12) (pc := 581) d_Mo_shape_581 rfl) ?_
  refine pxn (fun _ => pm_icmp_ne (pc := 583) (tgt := 596) d_Mo_shape_583 (by decide)) (fun c_11 => ?_) (fun c_11 => absurd c_11 (by decide))
  refine px (fun _ => pm_iload_n (pc := 596) d_Mo_shape_596 rfl) ?_
  refine px (fun _ => pm_bipush (v := 13) (pc := 597) d_Mo_shape_597 rfl) ?_
  refine pxn (fun _ => pm_icmp_ne (pc := 599) (tgt := 721) d_Mo_shape_599 (by decide)) (fun c_12 => ?_) (fun c_12 => absurd c_12 (by decide))
  refine px (fun _ => pm_iload_n (pc := 721) d_Mo_shape_721 rfl) ?_
  refine px (fun _ => pm_bipush (v := 14) (pc := 722) d_Mo_shape_722 rfl) ?_
  refine pxn (fun _ => pm_icmp_ne (pc := 724) (tgt := 799) d_Mo_shape_724 (by decide)) (fun c_13 => absurd (by decide) c_13) (fun c_13 => ?_)
  refine px (fun _ => pm_aload_n (pc := 727) d_Mo_shape_727 rfl) ?_
  refine px (fun _ => pm_getf fl_Mo_35 (pc := 728) d_Mo_shape_728 H.1 rfl) ?_
  refine px (fun _ => pm_iload_n (pc := 731) d_Mo_shape_731 rfl) ?_
  refine px (fun _ => pm_iald (j := n) (pc := 732) d_Mo_shape_732 H.2.2.2.2.2.2.2.2.2.1 (rfl) (hn) (by decide)) ?_
  refine pxb (fun _ => pm_if_lt (pc := 733) (tgt := 797) d_Mo_shape_733 (by decide)) (fun c_14 => absurd c_14 (hp)) (fun c_14 => ?_)
  refine px (fun _ => pm_aload_n (pc := 736) d_Mo_shape_736 rfl) ?_
  refine px (fun _ => pm_getf fl_Mo_35 (pc := 737) d_Mo_shape_737 H.1 rfl) ?_
  refine px (fun _ => pm_iload_n (pc := 740) d_Mo_shape_740 rfl) ?_
  refine px (fun _ => pm_iald (j := n) (pc := 741) d_Mo_shape_741 H.2.2.2.2.2.2.2.2.2.1 (rfl) (hn) (by decide)) ?_
  refine px (fun _ => pm_aload_n (pc := 742) d_Mo_shape_742 rfl) ?_
  refine px (fun _ => pm_getf fl_Mo_38 (pc := 743) d_Mo_shape_743 H.1 rfl) ?_
  refine px (fun _ => pm_iload_n (pc := 746) d_Mo_shape_746 rfl) ?_
  refine px (fun _ => pm_iald (j := n) (pc := 747) d_Mo_shape_747 H.2.2.2.2.2.2.2.2.2.2.1 (rfl) (hn) (by decide)) ?_
  refine pxb (fun _ => pm_icmp_gt (pc := 748) (tgt := 797) d_Mo_shape_748 (by decide)) (fun c_15 => ?_) (fun c_15 => absurd (hq) c_15)
  refine px (fun _ => pm_iconst (v := 0) (pc := 797) d_Mo_shape_797 rfl) ?_
  exact pxr (pm_iret (pc := 798) d_Mo_shape_798 rfl rfl) (m_PX_0 H (mFr.rf _) (rfl))
set_option maxHeartbeats 1000000 in
set_option maxRecDepth 20000 in
theorem sh_15 {l : Launch} {G : pm_G} {fi : Bool} {h : pm_H} {S : gS} {T : mS} {n a b o9 : Nat}  (hl : l.stackTraces = false) (H : mH T h) (hn : n < 14) (hop : mA T 6 n = 15) (ea : mQ T 12 (n * 3) = nI a) (ha : a < 20) (ta : mTb S T a) (ra : g_rng S a) (eb : mQ T 12 (n * 3 + 1) = nI b) (hb : b < 20) (tb : mTb S T b) (rb : g_rng S b) (ho : mA T 7 n = o9) (ho9 : o9 < 20)  : pm_Cn l G fi fi 0 0 M_Mo_shape [.ref 95, .int (nI n)] h (m_PX T o9 h (if gT S b 0 = 1 ∧ gT S b 1 = 1 then g_sh (gT S a 0) (gT S b 2) (gT S a 2) else none)) := by
  refine pm_Cn.of hl (by decide) (Nat.le_of_ble_eq_true rfl) ?_
  obtain ⟨r1, r2, r3, r4, r5⟩ := id ra
  obtain ⟨s1, s2, s3, s4, s5⟩ := id rb
  refine sh_pre2 hl H hn hop ea ha ta ra eb hb tb rb (by decide) (by decide) ?_
  refine px (fun _ => pm_iload_n (pc := 131) d_Mo_shape_131 rfl) ?_
  refine px (fun _ => pm_iconst (v := 4) (pc := 132) d_Mo_shape_132 rfl) ?_
  refine pxb (fun _ => pm_icmp_lt (pc := 133) (tgt := 142) d_Mo_shape_133 (by decide)) (fun c_1 => absurd c_1 (by decide)) (fun c_1 => ?_)
  refine px (fun _ => pm_iload_n (pc := 136) d_Mo_shape_136 rfl) ?_
  refine px (fun _ => pm_bipush (v := 8) (pc := 137) d_Mo_shape_137 rfl) ?_
  refine pxn (fun _ => pm_icmp_ne (pc := 139) (tgt := 213) d_Mo_shape_139 (by decide)) (fun c_2 => ?_) (fun c_2 => absurd c_2 (by decide))
  refine px (fun _ => pm_iload_n (pc := 213) d_Mo_shape_213 rfl) ?_
  refine px (fun _ => pm_iconst (v := 4) (pc := 214) d_Mo_shape_214 rfl) ?_
  refine pxn (fun _ => pm_icmp_ne (pc := 215) (tgt := 259) d_Mo_shape_215 (by decide)) (fun c_3 => ?_) (fun c_3 => absurd c_3 (by decide))
  refine px (fun _ => pm_iload_n (pc := 259) d_Mo_shape_259 rfl) ?_
  refine px (fun _ => pm_iconst (v := 5) (pc := 260) d_Mo_shape_260 rfl) ?_
  refine pxb (fun _ => pm_icmp_eq (pc := 261) (tgt := 270) d_Mo_shape_261 (by decide)) (fun c_4 => absurd c_4 (by decide)) (fun c_4 => ?_)
  refine px (fun _ => pm_iload_n (pc := 264) d_Mo_shape_264 rfl) ?_
  refine px (fun _ => pm_bipush (v := 18) (pc := 265) d_Mo_shape_265 rfl) ?_
  refine pxn (fun _ => pm_icmp_ne (pc := 267) (tgt := 294) d_Mo_shape_267 (by decide)) (fun c_5 => ?_) (fun c_5 => absurd c_5 (by decide))
  refine px (fun _ => pm_iload_n (pc := 294) d_Mo_shape_294 rfl) ?_
  refine px (fun _ => pm_bipush (v := 6) (pc := 295) d_Mo_shape_295 rfl) ?_
  refine pxn (fun _ => pm_icmp_ne (pc := 297) (tgt := 316) d_Mo_shape_297 (by decide)) (fun c_6 => ?_) (fun c_6 => absurd c_6 (by decide))
  refine px (fun _ => pm_iload_n (pc := 316) d_Mo_shape_316 rfl) ?_
  refine px (fun _ => pm_bipush (v := 7) (pc := 317) d_Mo_shape_317 rfl) ?_
  refine pxn (fun _ => pm_icmp_ne (pc := 319) (tgt := 361) d_Mo_shape_319 (by decide)) (fun c_7 => ?_) (fun c_7 => absurd c_7 (by decide))
  refine px (fun _ => pm_iload_n (pc := 361) d_Mo_shape_361 rfl) ?_
  refine px (fun _ => pm_bipush (v := 9) (pc := 362) d_Mo_shape_362 rfl) ?_
  refine pxn (fun _ => pm_icmp_ne (pc := 364) (tgt := 503) d_Mo_shape_364 (by decide)) (fun c_8 => ?_) (fun c_8 => absurd c_8 (by decide))
  refine px (fun _ => pm_iload_n (pc := 503) d_Mo_shape_503 rfl) ?_
  refine px (fun _ => pm_bipush (v := 10) (pc := 504) d_Mo_shape_504 rfl) ?_
  refine pxb (fun _ => pm_icmp_eq (pc := 506) (tgt := 515) d_Mo_shape_506 (by decide)) (fun c_9 => absurd c_9 (by decide)) (fun c_9 => ?_)
  refine px (fun _ => pm_iload_n (pc := 509) d_Mo_shape_509 rfl) ?_
  refine px (fun _ => pm_bipush (v := 11) (pc := 510) d_Mo_shape_510 rfl) ?_
  refine pxn (fun _ => pm_icmp_ne (pc := 512) (tgt := 580) d_Mo_shape_512 (by decide)) (fun c_10 => ?_) (fun c_10 => absurd c_10 (by decide))
  refine px (fun _ => pm_iload_n (pc := 580) d_Mo_shape_580 rfl) ?_
  refine px (fun _ => pm_bipush (v := 12) (pc := 581) d_Mo_shape_581 rfl) ?_
  refine pxn (fun _ => pm_icmp_ne (pc := 583) (tgt := 596) d_Mo_shape_583 (by decide)) (fun c_11 => ?_) (fun c_11 => absurd c_11 (by decide))
  refine px (fun _ => pm_iload_n (pc := 596) d_Mo_shape_596 rfl) ?_
  refine px (fun _ => pm_bipush (v := 13) (pc := 597) d_Mo_shape_597 rfl) ?_
  refine pxn (fun _ => pm_icmp_ne (pc := 599) (tgt := 721) d_Mo_shape_599 (by decide)) (fun c_12 => ?_) (fun c_12 => absurd c_12 (by decide))
  refine px (fun _ => pm_iload_n (pc := 721) d_Mo_shape_721 rfl) ?_
  refine px (fun _ => pm_bipush (v := 14) (pc := 722) d_Mo_shape_722 rfl) ?_
  refine pxn (fun _ => pm_icmp_ne (pc := 724) (tgt := 799) d_Mo_shape_724 (by decide)) (fun c_13 => ?_) (fun c_13 => absurd c_13 (by decide))
  refine px (fun _ => pm_iload_n (pc := 799) d_Mo_shape_799 rfl) ?_
  refine px (fun _ => pm_bipush (v := 15) (pc := 800) d_Mo_shape_800 rfl) ?_
  refine pxn (fun _ => pm_icmp_ne (pc := 802) (tgt := 856) d_Mo_shape_802 (by decide)) (fun c_14 => absurd (by decide) c_14) (fun c_14 => ?_)
  refine px (fun _ => pm_aload_n (pc := 805) d_Mo_shape_805 rfl) ?_
  refine px (fun _ => pm_getf fl_Mo_13 (pc := 806) d_Mo_shape_806 H.1 rfl) ?_
  refine px (fun _ => pm_iload (pc := 809) d_Mo_shape_809 rfl) ?_
  refine px (fun _ => pm_iald (j := b) (pc := 811) d_Mo_shape_811 H.2.2.1 (rfl) (hb) (by decide)) ?_
  rw [tb.1]
  refine px (fun _ => pm_iconst (v := 1) (pc := 812) d_Mo_shape_812 rfl) ?_
  refine pxn (fun _ => pm_icmp_ne (pc := 813) (tgt := 854) d_Mo_shape_813 (by decide)) (fun c_15 => ?_) (fun c_15 => ?_)
  · have n_c_15 : ¬ ((gT S b 0) = 1) := fun zq => c_15 ((nI_eq (a := (gT S b 0)) (b := 1) (by omega) (by omega)).mpr zq)
    refine px (fun _ => pm_iconst (v := 0) (pc := 854) d_Mo_shape_854 rfl) ?_
    exact pxr (pm_iret (pc := 855) d_Mo_shape_855 rfl rfl) (m_PX_0 H (mFr.rf _) (by first | (exact if_neg (by first | omega | assumption)) | (rw [if_pos (by first | omega | assumption)]; exact g_sh_n (by first | omega | assumption))))
  · have n_c_15 : (gT S b 0) = 1 := (nI_eq (a := (gT S b 0)) (b := 1) (by omega) (by omega)).mp c_15
    refine px (fun _ => pm_aload_n (pc := 816) d_Mo_shape_816 rfl) ?_
    refine px (fun _ => pm_getf fl_Mo_16 (pc := 817) d_Mo_shape_817 H.1 rfl) ?_
    refine px (fun _ => pm_iload (pc := 820) d_Mo_shape_820 rfl) ?_
    refine px (fun _ => pm_iald (j := b) (pc := 822) d_Mo_shape_822 H.2.2.2.1 (rfl) (hb) (by decide)) ?_
    rw [tb.2.1]
    refine px (fun _ => pm_iconst (v := 1) (pc := 823) d_Mo_shape_823 rfl) ?_
    refine pxn (fun _ => pm_icmp_ne (pc := 824) (tgt := 854) d_Mo_shape_824 (by decide)) (fun c_16 => ?_) (fun c_16 => ?_)
    · have n_c_16 : ¬ ((gT S b 1) = 1) := fun zq => c_16 ((nI_eq (a := (gT S b 1)) (b := 1) (by omega) (by omega)).mpr zq)
      refine px (fun _ => pm_iconst (v := 0) (pc := 854) d_Mo_shape_854 rfl) ?_
      exact pxr (pm_iret (pc := 855) d_Mo_shape_855 rfl rfl) (m_PX_0 H (mFr.rf _) (by first | (exact if_neg (by first | omega | assumption)) | (rw [if_pos (by first | omega | assumption)]; exact g_sh_n (by first | omega | assumption))))
    · have n_c_16 : (gT S b 1) = 1 := (nI_eq (a := (gT S b 1)) (b := 1) (by omega) (by omega)).mp c_16
      refine px (fun _ => pm_aload_n (pc := 827) d_Mo_shape_827 rfl) ?_
      refine px (fun _ => pm_iload_n (pc := 828) d_Mo_shape_828 rfl) ?_
      refine px (fun _ => pm_aload_n (pc := 829) d_Mo_shape_829 rfl) ?_
      refine px (fun _ => pm_getf fl_Mo_13 (pc := 830) d_Mo_shape_830 H.1 rfl) ?_
      refine px (fun _ => pm_iload_n (pc := 833) d_Mo_shape_833 rfl) ?_
      refine px (fun _ => pm_iald (j := a) (pc := 834) d_Mo_shape_834 H.2.2.1 (rfl) (ha) (by decide)) ?_
      rw [ta.1]
      refine px (fun _ => pm_aload_n (pc := 835) d_Mo_shape_835 rfl) ?_
      refine px (fun _ => pm_getf fl_Mo_19 (pc := 836) d_Mo_shape_836 H.1 rfl) ?_
      refine px (fun _ => pm_iload (pc := 839) d_Mo_shape_839 rfl) ?_
      refine px (fun _ => pm_iald (j := b) (pc := 841) d_Mo_shape_841 H.2.2.2.2.1 (rfl) (hb) (by decide)) ?_
      rw [tb.2.2]
      refine px (fun _ => pm_iload (pc := 842) d_Mo_shape_842 rfl) ?_
      obtain ⟨⟨o17, h17⟩, ⟨e17, H17, F17⟩, en17⟩ := m_give (l := l) (G := G) (fi := fi) (T := T) (t := (gT S a 0)) (r := (gT S b 2)) (c := (gT S a 2)) hl H hn ho ho9 (by omega) (by omega)
      dsimp only at e17 H17 F17
      subst e17
      refine px (fun _ => k_Mo_shape_844 (kc1 := 0) (ks1 := 0) (kc := 0) (ks := 0) (av := [.int (nI n), .int (nI (gT S a 0)), .int (nI (gT S b 2)), .int (nI (gT S a 2))]) (st := []) H.1 (en17) rfl rfl (Nat.le_of_ble_eq_true rfl)) ?_
      refine pxb (fun _ => pm_if_eq (pc := 847) (tgt := 854) d_Mo_shape_847 (by decide)) (fun c_18 => ?_) (fun c_18 => ?_)
      · have n_c_18 : ¬ ((1 ≤ (gT S b 2) ∧ (gT S b 2) ≤ 4) ∧ 1 ≤ (gT S a 2) ∧ (gT S a 2) ≤ 4) := g_if0.mp c_18
        refine px (fun _ => pm_iconst (v := 0) (pc := 854) d_Mo_shape_854 rfl) ?_
        exact pxr (pm_iret (pc := 855) d_Mo_shape_855 rfl rfl) (m_PX_n H17 (F17) (by first | (exact if_neg (by first | omega | assumption)) | (rw [if_pos (by first | omega | assumption)]; exact g_sh_n (by first | omega | assumption))))
      · have n_c_18 : (1 ≤ (gT S b 2) ∧ (gT S b 2) ≤ 4) ∧ 1 ≤ (gT S a 2) ∧ (gT S a 2) ≤ 4 := Decidable.byContradiction fun q => c_18 (g_if0.mpr q)
        refine px (fun _ => pm_iconst (v := 1) (pc := 850) d_Mo_shape_850 rfl) ?_
        refine px (fun _ => pm_goto (tgt := 855) (pc := 851) d_Mo_shape_851 (by decide)) ?_
        exact pxr (pm_iret (pc := 855) d_Mo_shape_855 rfl rfl) (m_PX_y H17 (F17) (by rw [if_pos (by first | omega | assumption)]; exact g_sh_y (by first | omega | assumption)))
set_option maxHeartbeats 1000000 in
set_option maxRecDepth 20000 in
theorem sh_16_ok {l : Launch} {G : pm_G} {fi : Bool} {h : pm_H} {S : gS} {T : mS} {n a b o9 : Nat} {p q : Nat} (hl : l.stackTraces = false) (H : mH T h) (hn : n < 14) (hop : mA T 6 n = 16) (ea : mQ T 12 (n * 3) = nI a) (ha : a < 20) (ta : mTb S T a) (ra : g_rng S a) (eb : mQ T 12 (n * 3 + 1) = nI b) (hb : b < 20) (tb : mTb S T b) (rb : g_rng S b) (ho : mA T 7 n = o9) (ho9 : o9 < 20) (hp : mQ T 8 n = nI p) (hq : mQ T 9 n = nI q) (p1 : 1 ≤ p) (p2 : p ≤ 2) (q2 : q ≤ 2) : pm_Cn l G fi fi 0 0 M_Mo_shape [.ref 95, .int (nI n)] h (m_PX T o9 h (if (gT S a 0 = 0 ∧ gT S b 0 = 0) ∧ gT S b 1 = 1 then (if gT S b 2 ≤ gT S a 2 + 2 * q then g_sh 0 (gT S a 1) ((gT S a 2 + 2 * q - gT S b 2) / p + 1) else none) else none)) := by
  refine pm_Cn.of hl (by decide) (Nat.le_of_ble_eq_true rfl) ?_
  obtain ⟨r1, r2, r3, r4, r5⟩ := id ra
  obtain ⟨s1, s2, s3, s4, s5⟩ := id rb
  refine sh_pre2 hl H hn hop ea ha ta ra eb hb tb rb (by decide) (by decide) ?_
  refine px (fun _ => pm_iload_n (pc := 131) d_Mo_shape_131 rfl) ?_
  refine px (fun _ => pm_iconst (v := 4) (pc := 132) d_Mo_shape_132 rfl) ?_
  refine pxb (fun _ => pm_icmp_lt (pc := 133) (tgt := 142) d_Mo_shape_133 (by decide)) (fun c_1 => absurd c_1 (by decide)) (fun c_1 => ?_)
  refine px (fun _ => pm_iload_n (pc := 136) d_Mo_shape_136 rfl) ?_
  refine px (fun _ => pm_bipush (v := 8) (pc := 137) d_Mo_shape_137 rfl) ?_
  refine pxn (fun _ => pm_icmp_ne (pc := 139) (tgt := 213) d_Mo_shape_139 (by decide)) (fun c_2 => ?_) (fun c_2 => absurd c_2 (by decide))
  refine px (fun _ => pm_iload_n (pc := 213) d_Mo_shape_213 rfl) ?_
  refine px (fun _ => pm_iconst (v := 4) (pc := 214) d_Mo_shape_214 rfl) ?_
  refine pxn (fun _ => pm_icmp_ne (pc := 215) (tgt := 259) d_Mo_shape_215 (by decide)) (fun c_3 => ?_) (fun c_3 => absurd c_3 (by decide))
  refine px (fun _ => pm_iload_n (pc := 259) d_Mo_shape_259 rfl) ?_
  refine px (fun _ => pm_iconst (v := 5) (pc := 260) d_Mo_shape_260 rfl) ?_
  refine pxb (fun _ => pm_icmp_eq (pc := 261) (tgt := 270) d_Mo_shape_261 (by decide)) (fun c_4 => absurd c_4 (by decide)) (fun c_4 => ?_)
  refine px (fun _ => pm_iload_n (pc := 264) d_Mo_shape_264 rfl) ?_
  refine px (fun _ => pm_bipush (v := 18) (pc := 265) d_Mo_shape_265 rfl) ?_
  refine pxn (fun _ => pm_icmp_ne (pc := 267) (tgt := 294) d_Mo_shape_267 (by decide)) (fun c_5 => ?_) (fun c_5 => absurd c_5 (by decide))
  refine px (fun _ => pm_iload_n (pc := 294) d_Mo_shape_294 rfl) ?_
  refine px (fun _ => pm_bipush (v := 6) (pc := 295) d_Mo_shape_295 rfl) ?_
  refine pxn (fun _ => pm_icmp_ne (pc := 297) (tgt := 316) d_Mo_shape_297 (by decide)) (fun c_6 => ?_) (fun c_6 => absurd c_6 (by decide))
  refine px (fun _ => pm_iload_n (pc := 316) d_Mo_shape_316 rfl) ?_
  refine px (fun _ => pm_bipush (v := 7) (pc := 317) d_Mo_shape_317 rfl) ?_
  refine pxn (fun _ => pm_icmp_ne (pc := 319) (tgt := 361) d_Mo_shape_319 (by decide)) (fun c_7 => ?_) (fun c_7 => absurd c_7 (by decide))
  refine px (fun _ => pm_iload_n (pc := 361) d_Mo_shape_361 rfl) ?_
  refine px (fun _ => pm_bipush (v := 9) (pc := 362) d_Mo_shape_362 rfl) ?_
  refine pxn (fun _ => pm_icmp_ne (pc := 364) (tgt := 503) d_Mo_shape_364 (by decide)) (fun c_8 => ?_) (fun c_8 => absurd c_8 (by decide))
  refine px (fun _ => pm_iload_n (pc := 503) d_Mo_shape_503 rfl) ?_
  refine px (fun _ => pm_bipush (v := 10) (pc := 504) d_Mo_shape_504 rfl) ?_
  refine pxb (fun _ => pm_icmp_eq (pc := 506) (tgt := 515) d_Mo_shape_506 (by decide)) (fun c_9 => absurd c_9 (by decide)) (fun c_9 => ?_)
  refine px (fun _ => pm_iload_n (pc := 509) d_Mo_shape_509 rfl) ?_
  refine px (fun _ => pm_bipush (v := 11) (pc := 510) d_Mo_shape_510 rfl) ?_
  refine pxn (fun _ => pm_icmp_ne (pc := 512) (tgt := 580) d_Mo_shape_512 (by decide)) (fun c_10 => ?_) (fun c_10 => absurd c_10 (by decide))
  refine px (fun _ => pm_iload_n (pc := 580) d_Mo_shape_580 rfl) ?_
  refine px (fun _ => pm_bipush (v := 12) (pc := 581) d_Mo_shape_581 rfl) ?_
  refine pxn (fun _ => pm_icmp_ne (pc := 583) (tgt := 596) d_Mo_shape_583 (by decide)) (fun c_11 => ?_) (fun c_11 => absurd c_11 (by decide))
  refine px (fun _ => pm_iload_n (pc := 596) d_Mo_shape_596 rfl) ?_
  refine px (fun _ => pm_bipush (v := 13) (pc := 597) d_Mo_shape_597 rfl) ?_
  refine pxn (fun _ => pm_icmp_ne (pc := 599) (tgt := 721) d_Mo_shape_599 (by decide)) (fun c_12 => ?_) (fun c_12 => absurd c_12 (by decide))
  refine px (fun _ => pm_iload_n (pc := 721) d_Mo_shape_721 rfl) ?_
  refine px (fun _ => pm_bipush (v := 14) (pc := 722) d_Mo_shape_722 rfl) ?_
  refine pxn (fun _ => pm_icmp_ne (pc := 724) (tgt := 799) d_Mo_shape_724 (by decide)) (fun c_13 => ?_) (fun c_13 => absurd c_13 (by decide))
  refine px (fun _ => pm_iload_n (pc := 799) d_Mo_shape_799 rfl) ?_
  refine px (fun _ => pm_bipush (v := 15) (pc := 800) d_Mo_shape_800 rfl) ?_
  refine pxn (fun _ => pm_icmp_ne (pc := 802) (tgt := 856) d_Mo_shape_802 (by decide)) (fun c_14 => ?_) (fun c_14 => absurd c_14 (by decide))
  refine px (fun _ => pm_iload_n (pc := 856) d_Mo_shape_856 rfl) ?_
  refine px (fun _ => pm_bipush (v := 16) (pc := 857) d_Mo_shape_857 rfl) ?_
  refine pxn (fun _ => pm_icmp_ne (pc := 859) (tgt := 962) d_Mo_shape_859 (by decide)) (fun c_15 => absurd (by decide) c_15) (fun c_15 => ?_)
  refine px (fun _ => pm_iload (pc := 862) d_Mo_shape_862 rfl) ?_
  refine px (fun _ => pm_iconst (v := 2) (pc := 864) d_Mo_shape_864 rfl) ?_
  refine px (fun _ => pm_aload_n (pc := 865) d_Mo_shape_865 rfl) ?_
  refine px (fun _ => pm_getf fl_Mo_38 (pc := 866) d_Mo_shape_866 H.1 rfl) ?_
  refine px (fun _ => pm_iload_n (pc := 869) d_Mo_shape_869 rfl) ?_
  refine px (fun _ => pm_iald (j := n) (pc := 870) d_Mo_shape_870 H.2.2.2.2.2.2.2.2.2.2.1 (rfl) (hn) (by decide)) ?_
  rw [hq]
  refine px (fun _ => pm_imulN (a := 2) (b := q) (pc := 871) d_Mo_shape_871) ?_
  refine px (fun _ => pm_iaddN (a := (gT S a 2)) (b := (2 * q)) (pc := 872) d_Mo_shape_872) ?_
  refine px (fun _ => pm_aload_n (pc := 873) d_Mo_shape_873 rfl) ?_
  refine px (fun _ => pm_getf fl_Mo_19 (pc := 874) d_Mo_shape_874 H.1 rfl) ?_
  refine px (fun _ => pm_iload (pc := 877) d_Mo_shape_877 rfl) ?_
  refine px (fun _ => pm_iald (j := b) (pc := 879) d_Mo_shape_879 H.2.2.2.2.1 (rfl) (hb) (by decide)) ?_
  rw [tb.2.2]
  by_cases h9 : gT S b 2 ≤ gT S a 2 + 2 * q
  · have d9 : (gT S a 2 + 2 * q - gT S b 2) / p ≤ 8 := Nat.le_trans (Nat.div_le_self _ _) (by omega)
    refine px (fun _ => pm_isubN (a := ((gT S a 2) + (2 * q))) (b := (gT S b 2)) (pc := 880) d_Mo_shape_880 (h9)) ?_
    refine px (fun _ => pm_istore (lv' := [(10, .int (nI (((gT S a 2) + (2 * q)) - (gT S b 2)))), (9, .int (nI (gT S a 2))), (8, .int (nI (gT S a 1))), (7, .int (if gT S a 0 = 0 ∧ gT S b 0 = 0 then 1 else 0)), (6, .int (if gT S a 0 = gT S b 0 then 1 else 0)), (5, .int (nI a)), (4, .int (nI b)), (3, .int (nI a)), (2, .int (16)), (0, .ref (95)), (1, .int (nI n))]) (pc := 881) d_Mo_shape_881 (by decide) rfl) ?_
    refine px (fun _ => pm_iload (pc := 883) d_Mo_shape_883 rfl) ?_
    refine pxb (fun _ => pm_if_eq (pc := 885) (tgt := 960) d_Mo_shape_885 (by decide)) (fun c_16 => ?_) (fun c_16 => ?_)
    · have n_c_16 : ¬ (gT S a 0 = 0 ∧ gT S b 0 = 0) := g_if0.mp c_16
      refine px (fun _ => pm_iconst (v := 0) (pc := 960) d_Mo_shape_960 rfl) ?_
      exact pxr (pm_iret (pc := 961) d_Mo_shape_961 rfl rfl) (m_PX_0 H (mFr.rf _) (by first | (exact if_neg (by first | omega | assumption)) | (rw [if_pos (by first | omega | assumption)]; exact if_neg (by first | omega | assumption)) | (rw [if_pos (by first | omega | assumption), if_pos (by first | omega | assumption)]; exact g_sh_n (by first | omega | assumption))))
    · have n_c_16 : gT S a 0 = 0 ∧ gT S b 0 = 0 := Decidable.byContradiction fun q => c_16 (g_if0.mpr q)
      refine px (fun _ => pm_aload_n (pc := 888) d_Mo_shape_888 rfl) ?_
      refine px (fun _ => pm_getf fl_Mo_16 (pc := 889) d_Mo_shape_889 H.1 rfl) ?_
      refine px (fun _ => pm_iload (pc := 892) d_Mo_shape_892 rfl) ?_
      refine px (fun _ => pm_iald (j := b) (pc := 894) d_Mo_shape_894 H.2.2.2.1 (rfl) (hb) (by decide)) ?_
      rw [tb.2.1]
      refine px (fun _ => pm_iconst (v := 1) (pc := 895) d_Mo_shape_895 rfl) ?_
      refine pxn (fun _ => pm_icmp_ne (pc := 896) (tgt := 960) d_Mo_shape_896 (by decide)) (fun c_17 => ?_) (fun c_17 => ?_)
      · have n_c_17 : ¬ ((gT S b 1) = 1) := fun zq => c_17 ((nI_eq (a := (gT S b 1)) (b := 1) (by omega) (by omega)).mpr zq)
        refine px (fun _ => pm_iconst (v := 0) (pc := 960) d_Mo_shape_960 rfl) ?_
        exact pxr (pm_iret (pc := 961) d_Mo_shape_961 rfl rfl) (m_PX_0 H (mFr.rf _) (by first | (exact if_neg (by first | omega | assumption)) | (rw [if_pos (by first | omega | assumption)]; exact if_neg (by first | omega | assumption)) | (rw [if_pos (by first | omega | assumption), if_pos (by first | omega | assumption)]; exact g_sh_n (by first | omega | assumption))))
      · have n_c_17 : (gT S b 1) = 1 := (nI_eq (a := (gT S b 1)) (b := 1) (by omega) (by omega)).mp c_17
        refine px (fun _ => pm_aload_n (pc := 899) d_Mo_shape_899 rfl) ?_
        refine px (fun _ => pm_aload_n (pc := 900) d_Mo_shape_900 rfl) ?_
        refine px (fun _ => pm_getf fl_Mo_38 (pc := 901) d_Mo_shape_901 H.1 rfl) ?_
        refine px (fun _ => pm_iload_n (pc := 904) d_Mo_shape_904 rfl) ?_
        refine px (fun _ => pm_iald (j := n) (pc := 905) d_Mo_shape_905 H.2.2.2.2.2.2.2.2.2.2.1 (rfl) (hn) (by decide)) ?_
        rw [hq]
        refine px (fun _ => pm_iconst (v := 0) (pc := 906) d_Mo_shape_906 rfl) ?_
        refine px (fun _ => pm_iconst (v := 2) (pc := 907) d_Mo_shape_907 rfl) ?_
        refine px (fun _ => k_Mo_shape_908 (kc1 := 0) (ks1 := 0) (kc := 0) (ks := 0) (av := [.int (nI q), .int (0), .int (2)]) (st := []) H.1 (m_out_in hl H (g_nin (n := q) (lo := 0) (hi := 2) (by omega) (by omega) (by omega)).1 (g_nin (n := q) (lo := 0) (hi := 2) (by omega) (by omega) (by omega)).2) rfl rfl (Nat.le_of_ble_eq_true rfl)) ?_
        refine pxn (fun _ => pm_if_ne (pc := 911) (tgt := 960) d_Mo_shape_911 (by decide)) (fun c_18 => absurd (by decide) c_18) (fun c_18 => ?_)
        refine px (fun _ => pm_aload_n (pc := 914) d_Mo_shape_914 rfl) ?_
        refine px (fun _ => pm_aload_n (pc := 915) d_Mo_shape_915 rfl) ?_
        refine px (fun _ => pm_getf fl_Mo_35 (pc := 916) d_Mo_shape_916 H.1 rfl) ?_
        refine px (fun _ => pm_iload_n (pc := 919) d_Mo_shape_919 rfl) ?_
        refine px (fun _ => pm_iald (j := n) (pc := 920) d_Mo_shape_920 H.2.2.2.2.2.2.2.2.2.1 (rfl) (hn) (by decide)) ?_
        rw [hp]
        refine px (fun _ => pm_iconst (v := 1) (pc := 921) d_Mo_shape_921 rfl) ?_
        refine px (fun _ => pm_iconst (v := 2) (pc := 922) d_Mo_shape_922 rfl) ?_
        refine px (fun _ => k_Mo_shape_923 (kc1 := 0) (ks1 := 0) (kc := 0) (ks := 0) (av := [.int (nI p), .int (1), .int (2)]) (st := []) H.1 (m_out_in hl H (g_nin (n := p) (lo := 1) (hi := 2) (by omega) (by omega) (by omega)).1 (g_nin (n := p) (lo := 1) (hi := 2) (by omega) (by omega) (by omega)).2) rfl rfl (Nat.le_of_ble_eq_true rfl)) ?_
        refine pxn (fun _ => pm_if_ne (pc := 926) (tgt := 960) d_Mo_shape_926 (by decide)) (fun c_19 => absurd (by decide) c_19) (fun c_19 => ?_)
        refine px (fun _ => pm_iload (pc := 929) d_Mo_shape_929 rfl) ?_
        refine pxb (fun _ => pm_if_lt (pc := 931) (tgt := 960) d_Mo_shape_931 (by decide)) (fun c_20 => absurd c_20 (nI_pos (by omega))) (fun c_20 => ?_)
        refine px (fun _ => pm_aload_n (pc := 934) d_Mo_shape_934 rfl) ?_
        refine px (fun _ => pm_iload_n (pc := 935) d_Mo_shape_935 rfl) ?_
        refine px (fun _ => pm_iconst (v := 0) (pc := 936) d_Mo_shape_936 rfl) ?_
        refine px (fun _ => pm_iload (pc := 937) d_Mo_shape_937 rfl) ?_
        refine px (fun _ => pm_iload (pc := 939) d_Mo_shape_939 rfl) ?_
        refine px (fun _ => pm_aload_n (pc := 941) d_Mo_shape_941 rfl) ?_
        refine px (fun _ => pm_getf fl_Mo_35 (pc := 942) d_Mo_shape_942 H.1 rfl) ?_
        refine px (fun _ => pm_iload_n (pc := 945) d_Mo_shape_945 rfl) ?_
        refine px (fun _ => pm_iald (j := n) (pc := 946) d_Mo_shape_946 H.2.2.2.2.2.2.2.2.2.1 (rfl) (hn) (by decide)) ?_
        rw [hp]
        refine px (fun _ => pm_idiv (pc := 947) d_Mo_shape_947 (g_nz3 p (by omega) (by omega))) ?_
        rw [g_div16 _ (by omega) p (by omega) (by omega)]
        refine px (fun _ => pm_iconst (v := 1) (pc := 948) d_Mo_shape_948 rfl) ?_
        refine px (fun _ => pm_iaddN (a := ((gT S a 2 + 2 * q - gT S b 2) / p)) (b := 1) (pc := 949) d_Mo_shape_949) ?_
        obtain ⟨⟨o21, h21⟩, ⟨e21, H21, F21⟩, en21⟩ := m_give (l := l) (G := G) (fi := fi) (T := T) (t := 0) (r := (gT S a 1)) (c := (((gT S a 2 + 2 * q - gT S b 2) / p) + 1)) hl H hn ho ho9 (by omega) (by omega)
        dsimp only at e21 H21 F21
        subst e21
        refine px (fun _ => k_Mo_shape_950 (kc1 := 0) (ks1 := 0) (kc := 0) (ks := 0) (av := [.int (nI n), .int (0), .int (nI (gT S a 1)), .int (nI (((gT S a 2 + 2 * q - gT S b 2) / p) + 1))]) (st := []) H.1 (en21) rfl rfl (Nat.le_of_ble_eq_true rfl)) ?_
        refine pxb (fun _ => pm_if_eq (pc := 953) (tgt := 960) d_Mo_shape_953 (by decide)) (fun c_22 => ?_) (fun c_22 => ?_)
        · have n_c_22 : ¬ ((1 ≤ (gT S a 1) ∧ (gT S a 1) ≤ 4) ∧ 1 ≤ (((gT S a 2 + 2 * q - gT S b 2) / p) + 1) ∧ (((gT S a 2 + 2 * q - gT S b 2) / p) + 1) ≤ 4) := g_if0.mp c_22
          refine px (fun _ => pm_iconst (v := 0) (pc := 960) d_Mo_shape_960 rfl) ?_
          exact pxr (pm_iret (pc := 961) d_Mo_shape_961 rfl rfl) (m_PX_n H21 (F21) (by first | (exact if_neg (by first | omega | assumption)) | (rw [if_pos (by first | omega | assumption)]; exact if_neg (by first | omega | assumption)) | (rw [if_pos (by first | omega | assumption), if_pos (by first | omega | assumption)]; exact g_sh_n (by first | omega | assumption))))
        · have n_c_22 : (1 ≤ (gT S a 1) ∧ (gT S a 1) ≤ 4) ∧ 1 ≤ (((gT S a 2 + 2 * q - gT S b 2) / p) + 1) ∧ (((gT S a 2 + 2 * q - gT S b 2) / p) + 1) ≤ 4 := Decidable.byContradiction fun q => c_22 (g_if0.mpr q)
          refine px (fun _ => pm_iconst (v := 1) (pc := 956) d_Mo_shape_956 rfl) ?_
          refine px (fun _ => pm_goto (tgt := 961) (pc := 957) d_Mo_shape_957 (by decide)) ?_
          exact pxr (pm_iret (pc := 961) d_Mo_shape_961 rfl rfl) (m_PX_y H21 (F21) (by rw [if_pos (by first | omega | assumption), if_pos (by first | omega | assumption)]; exact g_sh_y (by first | omega | assumption)))
  · have d9 : (gT S a 2 + 2 * q - gT S b 2) / p ≤ 8 := Nat.le_trans (Nat.div_le_self _ _) (by omega)
    refine px (fun _ => pm_isub (pc := 880) d_Mo_shape_880) ?_
    refine px (fun _ => pm_istore (lv' := [(10, .int ((nI ((gT S a 2) + (2 * q)) - nI (gT S b 2)))), (9, .int (nI (gT S a 2))), (8, .int (nI (gT S a 1))), (7, .int (if gT S a 0 = 0 ∧ gT S b 0 = 0 then 1 else 0)), (6, .int (if gT S a 0 = gT S b 0 then 1 else 0)), (5, .int (nI a)), (4, .int (nI b)), (3, .int (nI a)), (2, .int (16)), (0, .ref (95)), (1, .int (nI n))]) (pc := 881) d_Mo_shape_881 (by decide) rfl) ?_
    refine px (fun _ => pm_iload (pc := 883) d_Mo_shape_883 rfl) ?_
    refine pxb (fun _ => pm_if_eq (pc := 885) (tgt := 960) d_Mo_shape_885 (by decide)) (fun c_23 => ?_) (fun c_23 => ?_)
    · have n_c_23 : ¬ (gT S a 0 = 0 ∧ gT S b 0 = 0) := g_if0.mp c_23
      refine px (fun _ => pm_iconst (v := 0) (pc := 960) d_Mo_shape_960 rfl) ?_
      exact pxr (pm_iret (pc := 961) d_Mo_shape_961 rfl rfl) (m_PX_0 H (mFr.rf _) (by first | (exact if_neg (by first | omega | assumption)) | (rw [if_pos (by first | omega | assumption)]; exact if_neg (by first | omega | assumption)) | (rw [if_pos (by first | omega | assumption), if_pos (by first | omega | assumption)]; exact g_sh_n (by first | omega | assumption))))
    · have n_c_23 : gT S a 0 = 0 ∧ gT S b 0 = 0 := Decidable.byContradiction fun q => c_23 (g_if0.mpr q)
      refine px (fun _ => pm_aload_n (pc := 888) d_Mo_shape_888 rfl) ?_
      refine px (fun _ => pm_getf fl_Mo_16 (pc := 889) d_Mo_shape_889 H.1 rfl) ?_
      refine px (fun _ => pm_iload (pc := 892) d_Mo_shape_892 rfl) ?_
      refine px (fun _ => pm_iald (j := b) (pc := 894) d_Mo_shape_894 H.2.2.2.1 (rfl) (hb) (by decide)) ?_
      rw [tb.2.1]
      refine px (fun _ => pm_iconst (v := 1) (pc := 895) d_Mo_shape_895 rfl) ?_
      refine pxn (fun _ => pm_icmp_ne (pc := 896) (tgt := 960) d_Mo_shape_896 (by decide)) (fun c_24 => ?_) (fun c_24 => ?_)
      · have n_c_24 : ¬ ((gT S b 1) = 1) := fun zq => c_24 ((nI_eq (a := (gT S b 1)) (b := 1) (by omega) (by omega)).mpr zq)
        refine px (fun _ => pm_iconst (v := 0) (pc := 960) d_Mo_shape_960 rfl) ?_
        exact pxr (pm_iret (pc := 961) d_Mo_shape_961 rfl rfl) (m_PX_0 H (mFr.rf _) (by first | (exact if_neg (by first | omega | assumption)) | (rw [if_pos (by first | omega | assumption)]; exact if_neg (by first | omega | assumption)) | (rw [if_pos (by first | omega | assumption), if_pos (by first | omega | assumption)]; exact g_sh_n (by first | omega | assumption))))
      · have n_c_24 : (gT S b 1) = 1 := (nI_eq (a := (gT S b 1)) (b := 1) (by omega) (by omega)).mp c_24
        refine px (fun _ => pm_aload_n (pc := 899) d_Mo_shape_899 rfl) ?_
        refine px (fun _ => pm_aload_n (pc := 900) d_Mo_shape_900 rfl) ?_
        refine px (fun _ => pm_getf fl_Mo_38 (pc := 901) d_Mo_shape_901 H.1 rfl) ?_
        refine px (fun _ => pm_iload_n (pc := 904) d_Mo_shape_904 rfl) ?_
        refine px (fun _ => pm_iald (j := n) (pc := 905) d_Mo_shape_905 H.2.2.2.2.2.2.2.2.2.2.1 (rfl) (hn) (by decide)) ?_
        rw [hq]
        refine px (fun _ => pm_iconst (v := 0) (pc := 906) d_Mo_shape_906 rfl) ?_
        refine px (fun _ => pm_iconst (v := 2) (pc := 907) d_Mo_shape_907 rfl) ?_
        refine px (fun _ => k_Mo_shape_908 (kc1 := 0) (ks1 := 0) (kc := 0) (ks := 0) (av := [.int (nI q), .int (0), .int (2)]) (st := []) H.1 (m_out_in hl H (g_nin (n := q) (lo := 0) (hi := 2) (by omega) (by omega) (by omega)).1 (g_nin (n := q) (lo := 0) (hi := 2) (by omega) (by omega) (by omega)).2) rfl rfl (Nat.le_of_ble_eq_true rfl)) ?_
        refine pxn (fun _ => pm_if_ne (pc := 911) (tgt := 960) d_Mo_shape_911 (by decide)) (fun c_25 => absurd (by decide) c_25) (fun c_25 => ?_)
        refine px (fun _ => pm_aload_n (pc := 914) d_Mo_shape_914 rfl) ?_
        refine px (fun _ => pm_aload_n (pc := 915) d_Mo_shape_915 rfl) ?_
        refine px (fun _ => pm_getf fl_Mo_35 (pc := 916) d_Mo_shape_916 H.1 rfl) ?_
        refine px (fun _ => pm_iload_n (pc := 919) d_Mo_shape_919 rfl) ?_
        refine px (fun _ => pm_iald (j := n) (pc := 920) d_Mo_shape_920 H.2.2.2.2.2.2.2.2.2.1 (rfl) (hn) (by decide)) ?_
        rw [hp]
        refine px (fun _ => pm_iconst (v := 1) (pc := 921) d_Mo_shape_921 rfl) ?_
        refine px (fun _ => pm_iconst (v := 2) (pc := 922) d_Mo_shape_922 rfl) ?_
        refine px (fun _ => k_Mo_shape_923 (kc1 := 0) (ks1 := 0) (kc := 0) (ks := 0) (av := [.int (nI p), .int (1), .int (2)]) (st := []) H.1 (m_out_in hl H (g_nin (n := p) (lo := 1) (hi := 2) (by omega) (by omega) (by omega)).1 (g_nin (n := p) (lo := 1) (hi := 2) (by omega) (by omega) (by omega)).2) rfl rfl (Nat.le_of_ble_eq_true rfl)) ?_
        refine pxn (fun _ => pm_if_ne (pc := 926) (tgt := 960) d_Mo_shape_926 (by decide)) (fun c_26 => absurd (by decide) c_26) (fun c_26 => ?_)
        refine px (fun _ => pm_iload (pc := 929) d_Mo_shape_929 rfl) ?_
        refine pxb (fun _ => pm_if_lt (pc := 931) (tgt := 960) d_Mo_shape_931 (by decide)) (fun c_27 => ?_) (fun c_27 => absurd (g_subneg _ (by omega) _ (by omega) (by omega)) c_27)
        refine px (fun _ => pm_iconst (v := 0) (pc := 960) d_Mo_shape_960 rfl) ?_
        exact pxr (pm_iret (pc := 961) d_Mo_shape_961 rfl rfl) (m_PX_0 H (mFr.rf _) (by first | (exact if_neg (by first | omega | assumption)) | (rw [if_pos (by first | omega | assumption)]; exact if_neg (by first | omega | assumption)) | (rw [if_pos (by first | omega | assumption), if_pos (by first | omega | assumption)]; exact g_sh_n (by first | omega | assumption))))
set_option maxHeartbeats 1000000 in
set_option maxRecDepth 20000 in
theorem sh_16_q {l : Launch} {G : pm_G} {fi : Bool} {h : pm_H} {S : gS} {T : mS} {n a b o9 : Nat}  (hl : l.stackTraces = false) (H : mH T h) (hn : n < 14) (hop : mA T 6 n = 16) (ea : mQ T 12 (n * 3) = nI a) (ha : a < 20) (ta : mTb S T a) (ra : g_rng S a) (eb : mQ T 12 (n * 3 + 1) = nI b) (hb : b < 20) (tb : mTb S T b) (rb : g_rng S b) (ho : mA T 7 n = o9) (ho9 : o9 < 20) (hq : ¬ (¬ mQ T 9 n < 0 ∧ ¬ 2 < mQ T 9 n)) : pm_Cn l G fi fi 0 0 M_Mo_shape [.ref 95, .int (nI n)] h (m_PX T o9 h (none)) := by
  refine pm_Cn.of hl (by decide) (Nat.le_of_ble_eq_true rfl) ?_
  obtain ⟨r1, r2, r3, r4, r5⟩ := id ra
  obtain ⟨s1, s2, s3, s4, s5⟩ := id rb
  refine sh_pre2 hl H hn hop ea ha ta ra eb hb tb rb (by decide) (by decide) ?_
  refine px (fun _ => pm_iload_n (pc := 131) d_Mo_shape_131 rfl) ?_
  refine px (fun _ => pm_iconst (v := 4) (pc := 132) d_Mo_shape_132 rfl) ?_
  refine pxb (fun _ => pm_icmp_lt (pc := 133) (tgt := 142) d_Mo_shape_133 (by decide)) (fun c_1 => absurd c_1 (by decide)) (fun c_1 => ?_)
  refine px (fun _ => pm_iload_n (pc := 136) d_Mo_shape_136 rfl) ?_
  refine px (fun _ => pm_bipush (v := 8) (pc := 137) d_Mo_shape_137 rfl) ?_
  refine pxn (fun _ => pm_icmp_ne (pc := 139) (tgt := 213) d_Mo_shape_139 (by decide)) (fun c_2 => ?_) (fun c_2 => absurd c_2 (by decide))
  refine px (fun _ => pm_iload_n (pc := 213) d_Mo_shape_213 rfl) ?_
  refine px (fun _ => pm_iconst (v := 4) (pc := 214) d_Mo_shape_214 rfl) ?_
  refine pxn (fun _ => pm_icmp_ne (pc := 215) (tgt := 259) d_Mo_shape_215 (by decide)) (fun c_3 => ?_) (fun c_3 => absurd c_3 (by decide))
  refine px (fun _ => pm_iload_n (pc := 259) d_Mo_shape_259 rfl) ?_
  refine px (fun _ => pm_iconst (v := 5) (pc := 260) d_Mo_shape_260 rfl) ?_
  refine pxb (fun _ => pm_icmp_eq (pc := 261) (tgt := 270) d_Mo_shape_261 (by decide)) (fun c_4 => absurd c_4 (by decide)) (fun c_4 => ?_)
  refine px (fun _ => pm_iload_n (pc := 264) d_Mo_shape_264 rfl) ?_
  refine px (fun _ => pm_bipush (v := 18) (pc := 265) d_Mo_shape_265 rfl) ?_
  refine pxn (fun _ => pm_icmp_ne (pc := 267) (tgt := 294) d_Mo_shape_267 (by decide)) (fun c_5 => ?_) (fun c_5 => absurd c_5 (by decide))
  refine px (fun _ => pm_iload_n (pc := 294) d_Mo_shape_294 rfl) ?_
  refine px (fun _ => pm_bipush (v := 6) (pc := 295) d_Mo_shape_295 rfl) ?_
  refine pxn (fun _ => pm_icmp_ne (pc := 297) (tgt := 316) d_Mo_shape_297 (by decide)) (fun c_6 => ?_) (fun c_6 => absurd c_6 (by decide))
  refine px (fun _ => pm_iload_n (pc := 316) d_Mo_shape_316 rfl) ?_
  refine px (fun _ => pm_bipush (v := 7) (pc := 317) d_Mo_shape_317 rfl) ?_
  refine pxn (fun _ => pm_icmp_ne (pc := 319) (tgt := 361) d_Mo_shape_319 (by decide)) (fun c_7 => ?_) (fun c_7 => absurd c_7 (by decide))
  refine px (fun _ => pm_iload_n (pc := 361) d_Mo_shape_361 rfl) ?_
  refine px (fun _ => pm_bipush (v := 9) (pc := 362) d_Mo_shape_362 rfl) ?_
  refine pxn (fun _ => pm_icmp_ne (pc := 364) (tgt := 503) d_Mo_shape_364 (by decide)) (fun c_8 => ?_) (fun c_8 => absurd c_8 (by decide))
  refine px (fun _ => pm_iload_n (pc := 503) d_Mo_shape_503 rfl) ?_
  refine px (fun _ => pm_bipush (v := 10) (pc := 504) d_Mo_shape_504 rfl) ?_
  refine pxb (fun _ => pm_icmp_eq (pc := 506) (tgt := 515) d_Mo_shape_506 (by decide)) (fun c_9 => absurd c_9 (by decide)) (fun c_9 => ?_)
  refine px (fun _ => pm_iload_n (pc := 509) d_Mo_shape_509 rfl) ?_
  refine px (fun _ => pm_bipush (v := 11) (pc := 510) d_Mo_shape_510 rfl) ?_
  refine pxn (fun _ => pm_icmp_ne (pc := 512) (tgt := 580) d_Mo_shape_512 (by decide)) (fun c_10 => ?_) (fun c_10 => absurd c_10 (by decide))
  refine px (fun _ => pm_iload_n (pc := 580) d_Mo_shape_580 rfl) ?_
  refine px (fun _ => pm_bipush (v := 12) (pc := 581) d_Mo_shape_581 rfl) ?_
  refine pxn (fun _ => pm_icmp_ne (pc := 583) (tgt := 596) d_Mo_shape_583 (by decide)) (fun c_11 => ?_) (fun c_11 => absurd c_11 (by decide))
  refine px (fun _ => pm_iload_n (pc := 596) d_Mo_shape_596 rfl) ?_
  refine px (fun _ => pm_bipush (v := 13) (pc := 597) d_Mo_shape_597 rfl) ?_
  refine pxn (fun _ => pm_icmp_ne (pc := 599) (tgt := 721) d_Mo_shape_599 (by decide)) (fun c_12 => ?_) (fun c_12 => absurd c_12 (by decide))
  refine px (fun _ => pm_iload_n (pc := 721) d_Mo_shape_721 rfl) ?_
  refine px (fun _ => pm_bipush (v := 14) (pc := 722) d_Mo_shape_722 rfl) ?_
  refine pxn (fun _ => pm_icmp_ne (pc := 724) (tgt := 799) d_Mo_shape_724 (by decide)) (fun c_13 => ?_) (fun c_13 => absurd c_13 (by decide))
  refine px (fun _ => pm_iload_n (pc := 799) d_Mo_shape_799 rfl) ?_
  refine px (fun _ => pm_bipush (v := 15) (pc := 800) d_Mo_shape_800 rfl) ?_
  refine pxn (fun _ => pm_icmp_ne (pc := 802) (tgt := 856) d_Mo_shape_802 (by decide)) (fun c_14 => ?_) (fun c_14 => absurd c_14 (by decide))
  refine px (fun _ => pm_iload_n (pc := 856) d_Mo_shape_856 rfl) ?_
  refine px (fun _ => pm_bipush (v := 16) (pc := 857) d_Mo_shape_857 rfl) ?_
  refine pxn (fun _ => pm_icmp_ne (pc := 859) (tgt := 962) d_Mo_shape_859 (by decide)) (fun c_15 => absurd (by decide) c_15) (fun c_15 => ?_)
  refine px (fun _ => pm_iload (pc := 862) d_Mo_shape_862 rfl) ?_
  refine px (fun _ => pm_iconst (v := 2) (pc := 864) d_Mo_shape_864 rfl) ?_
  refine px (fun _ => pm_aload_n (pc := 865) d_Mo_shape_865 rfl) ?_
  refine px (fun _ => pm_getf fl_Mo_38 (pc := 866) d_Mo_shape_866 H.1 rfl) ?_
  refine px (fun _ => pm_iload_n (pc := 869) d_Mo_shape_869 rfl) ?_
  refine px (fun _ => pm_iald (j := n) (pc := 870) d_Mo_shape_870 H.2.2.2.2.2.2.2.2.2.2.1 (rfl) (hn) (by decide)) ?_
  refine px (fun _ => pm_imul (pc := 871) d_Mo_shape_871) ?_
  refine px (fun _ => pm_iadd (pc := 872) d_Mo_shape_872) ?_
  refine px (fun _ => pm_aload_n (pc := 873) d_Mo_shape_873 rfl) ?_
  refine px (fun _ => pm_getf fl_Mo_19 (pc := 874) d_Mo_shape_874 H.1 rfl) ?_
  refine px (fun _ => pm_iload (pc := 877) d_Mo_shape_877 rfl) ?_
  refine px (fun _ => pm_iald (j := b) (pc := 879) d_Mo_shape_879 H.2.2.2.2.1 (rfl) (hb) (by decide)) ?_
  rw [tb.2.2]
  refine px (fun _ => pm_isub (pc := 880) d_Mo_shape_880) ?_
  refine px (fun _ => pm_istore (lv' := [(10, .int (((nI (gT S a 2) + (2 * (mQ T 9) (n))) - nI (gT S b 2)))), (9, .int (nI (gT S a 2))), (8, .int (nI (gT S a 1))), (7, .int (if gT S a 0 = 0 ∧ gT S b 0 = 0 then 1 else 0)), (6, .int (if gT S a 0 = gT S b 0 then 1 else 0)), (5, .int (nI a)), (4, .int (nI b)), (3, .int (nI a)), (2, .int (16)), (0, .ref (95)), (1, .int (nI n))]) (pc := 881) d_Mo_shape_881 (by decide) rfl) ?_
  refine px (fun _ => pm_iload (pc := 883) d_Mo_shape_883 rfl) ?_
  refine pxb (fun _ => pm_if_eq (pc := 885) (tgt := 960) d_Mo_shape_885 (by decide)) (fun c_16 => ?_) (fun c_16 => ?_)
  · have n_c_16 : ¬ (gT S a 0 = 0 ∧ gT S b 0 = 0) := g_if0.mp c_16
    refine px (fun _ => pm_iconst (v := 0) (pc := 960) d_Mo_shape_960 rfl) ?_
    exact pxr (pm_iret (pc := 961) d_Mo_shape_961 rfl rfl) (m_PX_0 H (mFr.rf _) (rfl))
  · have n_c_16 : gT S a 0 = 0 ∧ gT S b 0 = 0 := Decidable.byContradiction fun q => c_16 (g_if0.mpr q)
    refine px (fun _ => pm_aload_n (pc := 888) d_Mo_shape_888 rfl) ?_
    refine px (fun _ => pm_getf fl_Mo_16 (pc := 889) d_Mo_shape_889 H.1 rfl) ?_
    refine px (fun _ => pm_iload (pc := 892) d_Mo_shape_892 rfl) ?_
    refine px (fun _ => pm_iald (j := b) (pc := 894) d_Mo_shape_894 H.2.2.2.1 (rfl) (hb) (by decide)) ?_
    rw [tb.2.1]
    refine px (fun _ => pm_iconst (v := 1) (pc := 895) d_Mo_shape_895 rfl) ?_
    refine pxn (fun _ => pm_icmp_ne (pc := 896) (tgt := 960) d_Mo_shape_896 (by decide)) (fun c_17 => ?_) (fun c_17 => ?_)
    · have n_c_17 : ¬ ((gT S b 1) = 1) := fun zq => c_17 ((nI_eq (a := (gT S b 1)) (b := 1) (by omega) (by omega)).mpr zq)
      refine px (fun _ => pm_iconst (v := 0) (pc := 960) d_Mo_shape_960 rfl) ?_
      exact pxr (pm_iret (pc := 961) d_Mo_shape_961 rfl rfl) (m_PX_0 H (mFr.rf _) (rfl))
    · have n_c_17 : (gT S b 1) = 1 := (nI_eq (a := (gT S b 1)) (b := 1) (by omega) (by omega)).mp c_17
      refine px (fun _ => pm_aload_n (pc := 899) d_Mo_shape_899 rfl) ?_
      refine px (fun _ => pm_aload_n (pc := 900) d_Mo_shape_900 rfl) ?_
      refine px (fun _ => pm_getf fl_Mo_38 (pc := 901) d_Mo_shape_901 H.1 rfl) ?_
      refine px (fun _ => pm_iload_n (pc := 904) d_Mo_shape_904 rfl) ?_
      refine px (fun _ => pm_iald (j := n) (pc := 905) d_Mo_shape_905 H.2.2.2.2.2.2.2.2.2.2.1 (rfl) (hn) (by decide)) ?_
      refine px (fun _ => pm_iconst (v := 0) (pc := 906) d_Mo_shape_906 rfl) ?_
      refine px (fun _ => pm_iconst (v := 2) (pc := 907) d_Mo_shape_907 rfl) ?_
      refine px (fun _ => k_Mo_shape_908 (kc1 := 0) (ks1 := 0) (kc := 0) (ks := 0) (av := [.int ((mQ T 9) (n)), .int (0), .int (2)]) (st := []) H.1 (m_out_out hl H hq) rfl rfl (Nat.le_of_ble_eq_true rfl)) ?_
      refine pxn (fun _ => pm_if_ne (pc := 911) (tgt := 960) d_Mo_shape_911 (by decide)) (fun c_18 => ?_) (fun c_18 => absurd c_18 (by decide))
      refine px (fun _ => pm_iconst (v := 0) (pc := 960) d_Mo_shape_960 rfl) ?_
      exact pxr (pm_iret (pc := 961) d_Mo_shape_961 rfl rfl) (m_PX_0 H (mFr.rf _) (rfl))
set_option maxHeartbeats 1000000 in
set_option maxRecDepth 20000 in
theorem sh_16_p {l : Launch} {G : pm_G} {fi : Bool} {h : pm_H} {S : gS} {T : mS} {n a b o9 : Nat}  (hl : l.stackTraces = false) (H : mH T h) (hn : n < 14) (hop : mA T 6 n = 16) (ea : mQ T 12 (n * 3) = nI a) (ha : a < 20) (ta : mTb S T a) (ra : g_rng S a) (eb : mQ T 12 (n * 3 + 1) = nI b) (hb : b < 20) (tb : mTb S T b) (rb : g_rng S b) (ho : mA T 7 n = o9) (ho9 : o9 < 20) (hq : ¬ mQ T 9 n < 0 ∧ ¬ 2 < mQ T 9 n) (hp : ¬ (¬ mQ T 8 n < 1 ∧ ¬ 2 < mQ T 8 n)) : pm_Cn l G fi fi 0 0 M_Mo_shape [.ref 95, .int (nI n)] h (m_PX T o9 h (none)) := by
  refine pm_Cn.of hl (by decide) (Nat.le_of_ble_eq_true rfl) ?_
  obtain ⟨r1, r2, r3, r4, r5⟩ := id ra
  obtain ⟨s1, s2, s3, s4, s5⟩ := id rb
  refine sh_pre2 hl H hn hop ea ha ta ra eb hb tb rb (by decide) (by decide) ?_
  refine px (fun _ => pm_iload_n (pc := 131) d_Mo_shape_131 rfl) ?_
  refine px (fun _ => pm_iconst (v := 4) (pc := 132) d_Mo_shape_132 rfl) ?_
  refine pxb (fun _ => pm_icmp_lt (pc := 133) (tgt := 142) d_Mo_shape_133 (by decide)) (fun c_1 => absurd c_1 (by decide)) (fun c_1 => ?_)
  refine px (fun _ => pm_iload_n (pc := 136) d_Mo_shape_136 rfl) ?_
  refine px (fun _ => pm_bipush (v := 8) (pc := 137) d_Mo_shape_137 rfl) ?_
  refine pxn (fun _ => pm_icmp_ne (pc := 139) (tgt := 213) d_Mo_shape_139 (by decide)) (fun c_2 => ?_) (fun c_2 => absurd c_2 (by decide))
  refine px (fun _ => pm_iload_n (pc := 213) d_Mo_shape_213 rfl) ?_
  refine px (fun _ => pm_iconst (v := 4) (pc := 214) d_Mo_shape_214 rfl) ?_
  refine pxn (fun _ => pm_icmp_ne (pc := 215) (tgt := 259) d_Mo_shape_215 (by decide)) (fun c_3 => ?_) (fun c_3 => absurd c_3 (by decide))
  refine px (fun _ => pm_iload_n (pc := 259) d_Mo_shape_259 rfl) ?_
  refine px (fun _ => pm_iconst (v := 5) (pc := 260) d_Mo_shape_260 rfl) ?_
  refine pxb (fun _ => pm_icmp_eq (pc := 261) (tgt := 270) d_Mo_shape_261 (by decide)) (fun c_4 => absurd c_4 (by decide)) (fun c_4 => ?_)
  refine px (fun _ => pm_iload_n (pc := 264) d_Mo_shape_264 rfl) ?_
  refine px (fun _ => pm_bipush (v := 18) (pc := 265) d_Mo_shape_265 rfl) ?_
  refine pxn (fun _ => pm_icmp_ne (pc := 267) (tgt := 294) d_Mo_shape_267 (by decide)) (fun c_5 => ?_) (fun c_5 => absurd c_5 (by decide))
  refine px (fun _ => pm_iload_n (pc := 294) d_Mo_shape_294 rfl) ?_
  refine px (fun _ => pm_bipush (v := 6) (pc := 295) d_Mo_shape_295 rfl) ?_
  refine pxn (fun _ => pm_icmp_ne (pc := 297) (tgt := 316) d_Mo_shape_297 (by decide)) (fun c_6 => ?_) (fun c_6 => absurd c_6 (by decide))
  refine px (fun _ => pm_iload_n (pc := 316) d_Mo_shape_316 rfl) ?_
  refine px (fun _ => pm_bipush (v := 7) (pc := 317) d_Mo_shape_317 rfl) ?_
  refine pxn (fun _ => pm_icmp_ne (pc := 319) (tgt := 361) d_Mo_shape_319 (by decide)) (fun c_7 => ?_) (fun c_7 => absurd c_7 (by decide))
  refine px (fun _ => pm_iload_n (pc := 361) d_Mo_shape_361 rfl) ?_
  refine px (fun _ => pm_bipush (v := 9) (pc := 362) d_Mo_shape_362 rfl) ?_
  refine pxn (fun _ => pm_icmp_ne (pc := 364) (tgt := 503) d_Mo_shape_364 (by decide)) (fun c_8 => ?_) (fun c_8 => absurd c_8 (by decide))
  refine px (fun _ => pm_iload_n (pc := 503) d_Mo_shape_503 rfl) ?_
  refine px (fun _ => pm_bipush (v := 10) (pc := 504) d_Mo_shape_504 rfl) ?_
  refine pxb (fun _ => pm_icmp_eq (pc := 506) (tgt := 515) d_Mo_shape_506 (by decide)) (fun c_9 => absurd c_9 (by decide)) (fun c_9 => ?_)
  refine px (fun _ => pm_iload_n (pc := 509) d_Mo_shape_509 rfl) ?_
  refine px (fun _ => pm_bipush (v := 11) (pc := 510) d_Mo_shape_510 rfl) ?_
  refine pxn (fun _ => pm_icmp_ne (pc := 512) (tgt := 580) d_Mo_shape_512 (by decide)) (fun c_10 => ?_) (fun c_10 => absurd c_10 (by decide))
  refine px (fun _ => pm_iload_n (pc := 580) d_Mo_shape_580 rfl) ?_
  refine px (fun _ => pm_bipush (v := 12) (pc := 581) d_Mo_shape_581 rfl) ?_
  refine pxn (fun _ => pm_icmp_ne (pc := 583) (tgt := 596) d_Mo_shape_583 (by decide)) (fun c_11 => ?_) (fun c_11 => absurd c_11 (by decide))
  refine px (fun _ => pm_iload_n (pc := 596) d_Mo_shape_596 rfl) ?_
  refine px (fun _ => pm_bipush (v := 13) (pc := 597) d_Mo_shape_597 rfl) ?_
  refine pxn (fun _ => pm_icmp_ne (pc := 599) (tgt := 721) d_Mo_shape_599 (by decide)) (fun c_12 => ?_) (fun c_12 => absurd c_12 (by decide))
  refine px (fun _ => pm_iload_n (pc := 721) d_Mo_shape_721 rfl) ?_
  refine px (fun _ => pm_bipush (v := 14) (pc := 722) d_Mo_shape_722 rfl) ?_
  refine pxn (fun _ => pm_icmp_ne (pc := 724) (tgt := 799) d_Mo_shape_724 (by decide)) (fun c_13 => ?_) (fun c_13 => absurd c_13 (by decide))
  refine px (fun _ => pm_iload_n (pc := 799) d_Mo_shape_799 rfl) ?_
  refine px (fun _ => pm_bipush (v := 15) (pc := 800) d_Mo_shape_800 rfl) ?_
  refine pxn (fun _ => pm_icmp_ne (pc := 802) (tgt := 856) d_Mo_shape_802 (by decide)) (fun c_14 => ?_) (fun c_14 => absurd c_14 (by decide))
  refine px (fun _ => pm_iload_n (pc := 856) d_Mo_shape_856 rfl) ?_
  refine px (fun _ => pm_bipush (v := 16) (pc := 857) d_Mo_shape_857 rfl) ?_
  refine pxn (fun _ => pm_icmp_ne (pc := 859) (tgt := 962) d_Mo_shape_859 (by decide)) (fun c_15 => absurd (by decide) c_15) (fun c_15 => ?_)
  refine px (fun _ => pm_iload (pc := 862) d_Mo_shape_862 rfl) ?_
  refine px (fun _ => pm_iconst (v := 2) (pc := 864) d_Mo_shape_864 rfl) ?_
  refine px (fun _ => pm_aload_n (pc := 865) d_Mo_shape_865 rfl) ?_
  refine px (fun _ => pm_getf fl_Mo_38 (pc := 866) d_Mo_shape_866 H.1 rfl) ?_
  refine px (fun _ => pm_iload_n (pc := 869) d_Mo_shape_869 rfl) ?_
  refine px (fun _ => pm_iald (j := n) (pc := 870) d_Mo_shape_870 H.2.2.2.2.2.2.2.2.2.2.1 (rfl) (hn) (by decide)) ?_
  refine px (fun _ => pm_imul (pc := 871) d_Mo_shape_871) ?_
  refine px (fun _ => pm_iadd (pc := 872) d_Mo_shape_872) ?_
  refine px (fun _ => pm_aload_n (pc := 873) d_Mo_shape_873 rfl) ?_
  refine px (fun _ => pm_getf fl_Mo_19 (pc := 874) d_Mo_shape_874 H.1 rfl) ?_
  refine px (fun _ => pm_iload (pc := 877) d_Mo_shape_877 rfl) ?_
  refine px (fun _ => pm_iald (j := b) (pc := 879) d_Mo_shape_879 H.2.2.2.2.1 (rfl) (hb) (by decide)) ?_
  rw [tb.2.2]
  refine px (fun _ => pm_isub (pc := 880) d_Mo_shape_880) ?_
  refine px (fun _ => pm_istore (lv' := [(10, .int (((nI (gT S a 2) + (2 * (mQ T 9) (n))) - nI (gT S b 2)))), (9, .int (nI (gT S a 2))), (8, .int (nI (gT S a 1))), (7, .int (if gT S a 0 = 0 ∧ gT S b 0 = 0 then 1 else 0)), (6, .int (if gT S a 0 = gT S b 0 then 1 else 0)), (5, .int (nI a)), (4, .int (nI b)), (3, .int (nI a)), (2, .int (16)), (0, .ref (95)), (1, .int (nI n))]) (pc := 881) d_Mo_shape_881 (by decide) rfl) ?_
  refine px (fun _ => pm_iload (pc := 883) d_Mo_shape_883 rfl) ?_
  refine pxb (fun _ => pm_if_eq (pc := 885) (tgt := 960) d_Mo_shape_885 (by decide)) (fun c_16 => ?_) (fun c_16 => ?_)
  · have n_c_16 : ¬ (gT S a 0 = 0 ∧ gT S b 0 = 0) := g_if0.mp c_16
    refine px (fun _ => pm_iconst (v := 0) (pc := 960) d_Mo_shape_960 rfl) ?_
    exact pxr (pm_iret (pc := 961) d_Mo_shape_961 rfl rfl) (m_PX_0 H (mFr.rf _) (rfl))
  · have n_c_16 : gT S a 0 = 0 ∧ gT S b 0 = 0 := Decidable.byContradiction fun q => c_16 (g_if0.mpr q)
    refine px (fun _ => pm_aload_n (pc := 888) d_Mo_shape_888 rfl) ?_
    refine px (fun _ => pm_getf fl_Mo_16 (pc := 889) d_Mo_shape_889 H.1 rfl) ?_
    refine px (fun _ => pm_iload (pc := 892) d_Mo_shape_892 rfl) ?_
    refine px (fun _ => pm_iald (j := b) (pc := 894) d_Mo_shape_894 H.2.2.2.1 (rfl) (hb) (by decide)) ?_
    rw [tb.2.1]
    refine px (fun _ => pm_iconst (v := 1) (pc := 895) d_Mo_shape_895 rfl) ?_
    refine pxn (fun _ => pm_icmp_ne (pc := 896) (tgt := 960) d_Mo_shape_896 (by decide)) (fun c_17 => ?_) (fun c_17 => ?_)
    · have n_c_17 : ¬ ((gT S b 1) = 1) := fun zq => c_17 ((nI_eq (a := (gT S b 1)) (b := 1) (by omega) (by omega)).mpr zq)
      refine px (fun _ => pm_iconst (v := 0) (pc := 960) d_Mo_shape_960 rfl) ?_
      exact pxr (pm_iret (pc := 961) d_Mo_shape_961 rfl rfl) (m_PX_0 H (mFr.rf _) (rfl))
    · have n_c_17 : (gT S b 1) = 1 := (nI_eq (a := (gT S b 1)) (b := 1) (by omega) (by omega)).mp c_17
      refine px (fun _ => pm_aload_n (pc := 899) d_Mo_shape_899 rfl) ?_
      refine px (fun _ => pm_aload_n (pc := 900) d_Mo_shape_900 rfl) ?_
      refine px (fun _ => pm_getf fl_Mo_38 (pc := 901) d_Mo_shape_901 H.1 rfl) ?_
      refine px (fun _ => pm_iload_n (pc := 904) d_Mo_shape_904 rfl) ?_
      refine px (fun _ => pm_iald (j := n) (pc := 905) d_Mo_shape_905 H.2.2.2.2.2.2.2.2.2.2.1 (rfl) (hn) (by decide)) ?_
      refine px (fun _ => pm_iconst (v := 0) (pc := 906) d_Mo_shape_906 rfl) ?_
      refine px (fun _ => pm_iconst (v := 2) (pc := 907) d_Mo_shape_907 rfl) ?_
      refine px (fun _ => k_Mo_shape_908 (kc1 := 0) (ks1 := 0) (kc := 0) (ks := 0) (av := [.int ((mQ T 9) (n)), .int (0), .int (2)]) (st := []) H.1 (m_out_in hl H hq.1 hq.2) rfl rfl (Nat.le_of_ble_eq_true rfl)) ?_
      refine pxn (fun _ => pm_if_ne (pc := 911) (tgt := 960) d_Mo_shape_911 (by decide)) (fun c_18 => absurd (by decide) c_18) (fun c_18 => ?_)
      refine px (fun _ => pm_aload_n (pc := 914) d_Mo_shape_914 rfl) ?_
      refine px (fun _ => pm_aload_n (pc := 915) d_Mo_shape_915 rfl) ?_
      refine px (fun _ => pm_getf fl_Mo_35 (pc := 916) d_Mo_shape_916 H.1 rfl) ?_
      refine px (fun _ => pm_iload_n (pc := 919) d_Mo_shape_919 rfl) ?_
      refine px (fun _ => pm_iald (j := n) (pc := 920) d_Mo_shape_920 H.2.2.2.2.2.2.2.2.2.1 (rfl) (hn) (by decide)) ?_
      refine px (fun _ => pm_iconst (v := 1) (pc := 921) d_Mo_shape_921 rfl) ?_
      refine px (fun _ => pm_iconst (v := 2) (pc := 922) d_Mo_shape_922 rfl) ?_
      refine px (fun _ => k_Mo_shape_923 (kc1 := 0) (ks1 := 0) (kc := 0) (ks := 0) (av := [.int ((mQ T 8) (n)), .int (1), .int (2)]) (st := []) H.1 (m_out_out hl H hp) rfl rfl (Nat.le_of_ble_eq_true rfl)) ?_
      refine pxn (fun _ => pm_if_ne (pc := 926) (tgt := 960) d_Mo_shape_926 (by decide)) (fun c_19 => ?_) (fun c_19 => absurd c_19 (by decide))
      refine px (fun _ => pm_iconst (v := 0) (pc := 960) d_Mo_shape_960 rfl) ?_
      exact pxr (pm_iret (pc := 961) d_Mo_shape_961 rfl rfl) (m_PX_0 H (mFr.rf _) (rfl))
set_option maxHeartbeats 1000000 in
set_option maxRecDepth 20000 in
theorem sh_17 {l : Launch} {G : pm_G} {fi : Bool} {h : pm_H} {S : gS} {T : mS} {n a b c o9 : Nat}  (hl : l.stackTraces = false) (H : mH T h) (hn : n < 14) (hop : mA T 6 n = 17) (ea : mQ T 12 (n * 3) = nI a) (ha : a < 20) (ta : mTb S T a) (ra : g_rng S a) (eb : mQ T 12 (n * 3 + 1) = nI b) (hb : b < 20) (tb : mTb S T b) (rb : g_rng S b) (ec : mQ T 12 (n * 3 + 2) = nI c) (hc : c < 20) (tc : mTb S T c) (rc : g_rng S c) (ho : mA T 7 n = o9) (ho9 : o9 < 20)  : pm_Cn l G fi fi 0 0 M_Mo_shape [.ref 95, .int (nI n)] h (m_PX T o9 h (if gT S c 0 = 1 ∧ gT S c 1 = 1 ∧ gT S c 2 = 1 ∧ (gT S a 0 = gT S b 0 ∧ gT S a 1 = gT S b 1 ∧ gT S a 2 = gT S b 2) then g_sh (gT S a 0) (gT S a 1) (gT S a 2) else none)) := by
  refine pm_Cn.of hl (by decide) (Nat.le_of_ble_eq_true rfl) ?_
  obtain ⟨r1, r2, r3, r4, r5⟩ := id ra
  obtain ⟨s1, s2, s3, s4, s5⟩ := id rb
  obtain ⟨q1, q2, q3, q4, q5⟩ := id rc
  refine sh_pre3 hl H hn hop ea ha ta ra eb hb tb rb ec hc tc rc (by decide) (by decide) ?_
  refine px (fun _ => pm_iload_n (pc := 131) d_Mo_shape_131 rfl) ?_
  refine px (fun _ => pm_iconst (v := 4) (pc := 132) d_Mo_shape_132 rfl) ?_
  refine pxb (fun _ => pm_icmp_lt (pc := 133) (tgt := 142) d_Mo_shape_133 (by decide)) (fun c_1 => absurd c_1 (by decide)) (fun c_1 => ?_)
  refine px (fun _ => pm_iload_n (pc := 136) d_Mo_shape_136 rfl) ?_
  refine px (fun _ => pm_bipush (v := 8) (pc := 137) d_Mo_shape_137 rfl) ?_
  refine pxn (fun _ => pm_icmp_ne (pc := 139) (tgt := 213) d_Mo_shape_139 (by decide)) (fun c_2 => ?_) (fun c_2 => absurd c_2 (by decide))
  refine px (fun _ => pm_iload_n (pc := 213) d_Mo_shape_213 rfl) ?_
  refine px (fun _ => pm_iconst (v := 4) (pc := 214) d_Mo_shape_214 rfl) ?_
  refine pxn (fun _ => pm_icmp_ne (pc := 215) (tgt := 259) d_Mo_shape_215 (by decide)) (fun c_3 => ?_) (fun c_3 => absurd c_3 (by decide))
  refine px (fun _ => pm_iload_n (pc := 259) d_Mo_shape_259 rfl) ?_
  refine px (fun _ => pm_iconst (v := 5) (pc := 260) d_Mo_shape_260 rfl) ?_
  refine pxb (fun _ => pm_icmp_eq (pc := 261) (tgt := 270) d_Mo_shape_261 (by decide)) (fun c_4 => absurd c_4 (by decide)) (fun c_4 => ?_)
  refine px (fun _ => pm_iload_n (pc := 264) d_Mo_shape_264 rfl) ?_
  refine px (fun _ => pm_bipush (v := 18) (pc := 265) d_Mo_shape_265 rfl) ?_
  refine pxn (fun _ => pm_icmp_ne (pc := 267) (tgt := 294) d_Mo_shape_267 (by decide)) (fun c_5 => ?_) (fun c_5 => absurd c_5 (by decide))
  refine px (fun _ => pm_iload_n (pc := 294) d_Mo_shape_294 rfl) ?_
  refine px (fun _ => pm_bipush (v := 6) (pc := 295) d_Mo_shape_295 rfl) ?_
  refine pxn (fun _ => pm_icmp_ne (pc := 297) (tgt := 316) d_Mo_shape_297 (by decide)) (fun c_6 => ?_) (fun c_6 => absurd c_6 (by decide))
  refine px (fun _ => pm_iload_n (pc := 316) d_Mo_shape_316 rfl) ?_
  refine px (fun _ => pm_bipush (v := 7) (pc := 317) d_Mo_shape_317 rfl) ?_
  refine pxn (fun _ => pm_icmp_ne (pc := 319) (tgt := 361) d_Mo_shape_319 (by decide)) (fun c_7 => ?_) (fun c_7 => absurd c_7 (by decide))
  refine px (fun _ => pm_iload_n (pc := 361) d_Mo_shape_361 rfl) ?_
  refine px (fun _ => pm_bipush (v := 9) (pc := 362) d_Mo_shape_362 rfl) ?_
  refine pxn (fun _ => pm_icmp_ne (pc := 364) (tgt := 503) d_Mo_shape_364 (by decide)) (fun c_8 => ?_) (fun c_8 => absurd c_8 (by decide))
  refine px (fun _ => pm_iload_n (pc := 503) d_Mo_shape_503 rfl) ?_
  refine px (fun _ => pm_bipush (v := 10) (pc := 504) d_Mo_shape_504 rfl) ?_
  refine pxb (fun _ => pm_icmp_eq (pc := 506) (tgt := 515) d_Mo_shape_506 (by decide)) (fun c_9 => absurd c_9 (by decide)) (fun c_9 => ?_)
  refine px (fun _ => pm_iload_n (pc := 509) d_Mo_shape_509 rfl) ?_
  refine px (fun _ => pm_bipush (v := 11) (pc := 510) d_Mo_shape_510 rfl) ?_
  refine pxn (fun _ => pm_icmp_ne (pc := 512) (tgt := 580) d_Mo_shape_512 (by decide)) (fun c_10 => ?_) (fun c_10 => absurd c_10 (by decide))
  refine px (fun _ => pm_iload_n (pc := 580) d_Mo_shape_580 rfl) ?_
  refine px (fun _ => pm_bipush (v := 12) (pc := 581) d_Mo_shape_581 rfl) ?_
  refine pxn (fun _ => pm_icmp_ne (pc := 583) (tgt := 596) d_Mo_shape_583 (by decide)) (fun c_11 => ?_) (fun c_11 => absurd c_11 (by decide))
  refine px (fun _ => pm_iload_n (pc := 596) d_Mo_shape_596 rfl) ?_
  refine px (fun _ => pm_bipush (v := 13) (pc := 597) d_Mo_shape_597 rfl) ?_
  refine pxn (fun _ => pm_icmp_ne (pc := 599) (tgt := 721) d_Mo_shape_599 (by decide)) (fun c_12 => ?_) (fun c_12 => absurd c_12 (by decide))
  refine px (fun _ => pm_iload_n (pc := 721) d_Mo_shape_721 rfl) ?_
  refine px (fun _ => pm_bipush (v := 14) (pc := 722) d_Mo_shape_722 rfl) ?_
  refine pxn (fun _ => pm_icmp_ne (pc := 724) (tgt := 799) d_Mo_shape_724 (by decide)) (fun c_13 => ?_) (fun c_13 => absurd c_13 (by decide))
  refine px (fun _ => pm_iload_n (pc := 799) d_Mo_shape_799 rfl) ?_
  refine px (fun _ => pm_bipush (v := 15) (pc := 800) d_Mo_shape_800 rfl) ?_
  refine pxn (fun _ => pm_icmp_ne (pc := 802) (tgt := 856) d_Mo_shape_802 (by decide)) (fun c_14 => ?_) (fun c_14 => absurd c_14 (by decide))
  refine px (fun _ => pm_iload_n (pc := 856) d_Mo_shape_856 rfl) ?_
  refine px (fun _ => pm_bipush (v := 16) (pc := 857) d_Mo_shape_857 rfl) ?_
  refine pxn (fun _ => pm_icmp_ne (pc := 859) (tgt := 962) d_Mo_shape_859 (by decide)) (fun c_15 => ?_) (fun c_15 => absurd c_15 (by decide))
  refine px (fun _ => pm_aload_n (pc := 962) d_Mo_shape_962 rfl) ?_
  refine px (fun _ => pm_getf fl_Mo_13 (pc := 963) d_Mo_shape_963 H.1 rfl) ?_
  refine px (fun _ => pm_iload (pc := 966) d_Mo_shape_966 rfl) ?_
  refine px (fun _ => pm_iald (j := c) (pc := 968) d_Mo_shape_968 H.2.2.1 (rfl) (hc) (by decide)) ?_
  rw [tc.1]
  refine px (fun _ => pm_iconst (v := 1) (pc := 969) d_Mo_shape_969 rfl) ?_
  refine pxn (fun _ => pm_icmp_ne (pc := 970) (tgt := 1046) d_Mo_shape_970 (by decide)) (fun c_16 => ?_) (fun c_16 => ?_)
  · have n_c_16 : ¬ ((gT S c 0) = 1) := fun zq => c_16 ((nI_eq (a := (gT S c 0)) (b := 1) (by omega) (by omega)).mpr zq)
    refine px (fun _ => pm_iconst (v := 0) (pc := 1046) d_Mo_shape_1046 rfl) ?_
    exact pxr (pm_iret (pc := 1047) d_Mo_shape_1047 rfl rfl) (m_PX_0 H (mFr.rf _) (by first | (exact if_neg (by first | omega | assumption)) | (rw [if_pos (by first | omega | assumption)]; exact g_sh_n (by first | omega | assumption))))
  · have n_c_16 : (gT S c 0) = 1 := (nI_eq (a := (gT S c 0)) (b := 1) (by omega) (by omega)).mp c_16
    refine px (fun _ => pm_aload_n (pc := 973) d_Mo_shape_973 rfl) ?_
    refine px (fun _ => pm_getf fl_Mo_16 (pc := 974) d_Mo_shape_974 H.1 rfl) ?_
    refine px (fun _ => pm_iload (pc := 977) d_Mo_shape_977 rfl) ?_
    refine px (fun _ => pm_iald (j := c) (pc := 979) d_Mo_shape_979 H.2.2.2.1 (rfl) (hc) (by decide)) ?_
    rw [tc.2.1]
    refine px (fun _ => pm_iconst (v := 1) (pc := 980) d_Mo_shape_980 rfl) ?_
    refine pxn (fun _ => pm_icmp_ne (pc := 981) (tgt := 1046) d_Mo_shape_981 (by decide)) (fun c_17 => ?_) (fun c_17 => ?_)
    · have n_c_17 : ¬ ((gT S c 1) = 1) := fun zq => c_17 ((nI_eq (a := (gT S c 1)) (b := 1) (by omega) (by omega)).mpr zq)
      refine px (fun _ => pm_iconst (v := 0) (pc := 1046) d_Mo_shape_1046 rfl) ?_
      exact pxr (pm_iret (pc := 1047) d_Mo_shape_1047 rfl rfl) (m_PX_0 H (mFr.rf _) (by first | (exact if_neg (by first | omega | assumption)) | (rw [if_pos (by first | omega | assumption)]; exact g_sh_n (by first | omega | assumption))))
    · have n_c_17 : (gT S c 1) = 1 := (nI_eq (a := (gT S c 1)) (b := 1) (by omega) (by omega)).mp c_17
      refine px (fun _ => pm_aload_n (pc := 984) d_Mo_shape_984 rfl) ?_
      refine px (fun _ => pm_getf fl_Mo_19 (pc := 985) d_Mo_shape_985 H.1 rfl) ?_
      refine px (fun _ => pm_iload (pc := 988) d_Mo_shape_988 rfl) ?_
      refine px (fun _ => pm_iald (j := c) (pc := 990) d_Mo_shape_990 H.2.2.2.2.1 (rfl) (hc) (by decide)) ?_
      rw [tc.2.2]
      refine px (fun _ => pm_iconst (v := 1) (pc := 991) d_Mo_shape_991 rfl) ?_
      refine pxn (fun _ => pm_icmp_ne (pc := 992) (tgt := 1046) d_Mo_shape_992 (by decide)) (fun c_18 => ?_) (fun c_18 => ?_)
      · have n_c_18 : ¬ ((gT S c 2) = 1) := fun zq => c_18 ((nI_eq (a := (gT S c 2)) (b := 1) (by omega) (by omega)).mpr zq)
        refine px (fun _ => pm_iconst (v := 0) (pc := 1046) d_Mo_shape_1046 rfl) ?_
        exact pxr (pm_iret (pc := 1047) d_Mo_shape_1047 rfl rfl) (m_PX_0 H (mFr.rf _) (by first | (exact if_neg (by first | omega | assumption)) | (rw [if_pos (by first | omega | assumption)]; exact g_sh_n (by first | omega | assumption))))
      · have n_c_18 : (gT S c 2) = 1 := (nI_eq (a := (gT S c 2)) (b := 1) (by omega) (by omega)).mp c_18
        refine px (fun _ => pm_iload (pc := 995) d_Mo_shape_995 rfl) ?_
        refine pxb (fun _ => pm_if_eq (pc := 997) (tgt := 1046) d_Mo_shape_997 (by decide)) (fun c_19 => ?_) (fun c_19 => ?_)
        · have n_c_19 : ¬ (gT S a 0 = gT S b 0) := g_if0.mp c_19
          refine px (fun _ => pm_iconst (v := 0) (pc := 1046) d_Mo_shape_1046 rfl) ?_
          exact pxr (pm_iret (pc := 1047) d_Mo_shape_1047 rfl rfl) (m_PX_0 H (mFr.rf _) (by first | (exact if_neg (by first | omega | assumption)) | (rw [if_pos (by first | omega | assumption)]; exact g_sh_n (by first | omega | assumption))))
        · have n_c_19 : gT S a 0 = gT S b 0 := Decidable.byContradiction fun q => c_19 (g_if0.mpr q)
          refine px (fun _ => pm_iload (pc := 1000) d_Mo_shape_1000 rfl) ?_
          refine px (fun _ => pm_aload_n (pc := 1002) d_Mo_shape_1002 rfl) ?_
          refine px (fun _ => pm_getf fl_Mo_16 (pc := 1003) d_Mo_shape_1003 H.1 rfl) ?_
          refine px (fun _ => pm_iload (pc := 1006) d_Mo_shape_1006 rfl) ?_
          refine px (fun _ => pm_iald (j := b) (pc := 1008) d_Mo_shape_1008 H.2.2.2.1 (rfl) (hb) (by decide)) ?_
          rw [tb.2.1]
          refine pxn (fun _ => pm_icmp_ne (pc := 1009) (tgt := 1046) d_Mo_shape_1009 (by decide)) (fun c_20 => ?_) (fun c_20 => ?_)
          · have n_c_20 : ¬ ((gT S a 1) = (gT S b 1)) := fun zq => c_20 ((nI_eq (a := (gT S a 1)) (b := (gT S b 1)) (by omega) (by omega)).mpr zq)
            refine px (fun _ => pm_iconst (v := 0) (pc := 1046) d_Mo_shape_1046 rfl) ?_
            exact pxr (pm_iret (pc := 1047) d_Mo_shape_1047 rfl rfl) (m_PX_0 H (mFr.rf _) (by first | (exact if_neg (by first | omega | assumption)) | (rw [if_pos (by first | omega | assumption)]; exact g_sh_n (by first | omega | assumption))))
          · have n_c_20 : (gT S a 1) = (gT S b 1) := (nI_eq (a := (gT S a 1)) (b := (gT S b 1)) (by omega) (by omega)).mp c_20
            refine px (fun _ => pm_iload (pc := 1012) d_Mo_shape_1012 rfl) ?_
            refine px (fun _ => pm_aload_n (pc := 1014) d_Mo_shape_1014 rfl) ?_
            refine px (fun _ => pm_getf fl_Mo_19 (pc := 1015) d_Mo_shape_1015 H.1 rfl) ?_
            refine px (fun _ => pm_iload (pc := 1018) d_Mo_shape_1018 rfl) ?_
            refine px (fun _ => pm_iald (j := b) (pc := 1020) d_Mo_shape_1020 H.2.2.2.2.1 (rfl) (hb) (by decide)) ?_
            rw [tb.2.2]
            refine pxn (fun _ => pm_icmp_ne (pc := 1021) (tgt := 1046) d_Mo_shape_1021 (by decide)) (fun c_21 => ?_) (fun c_21 => ?_)
            · have n_c_21 : ¬ ((gT S a 2) = (gT S b 2)) := fun zq => c_21 ((nI_eq (a := (gT S a 2)) (b := (gT S b 2)) (by omega) (by omega)).mpr zq)
              refine px (fun _ => pm_iconst (v := 0) (pc := 1046) d_Mo_shape_1046 rfl) ?_
              exact pxr (pm_iret (pc := 1047) d_Mo_shape_1047 rfl rfl) (m_PX_0 H (mFr.rf _) (by first | (exact if_neg (by first | omega | assumption)) | (rw [if_pos (by first | omega | assumption)]; exact g_sh_n (by first | omega | assumption))))
            · have n_c_21 : (gT S a 2) = (gT S b 2) := (nI_eq (a := (gT S a 2)) (b := (gT S b 2)) (by omega) (by omega)).mp c_21
              refine px (fun _ => pm_aload_n (pc := 1024) d_Mo_shape_1024 rfl) ?_
              refine px (fun _ => pm_iload_n (pc := 1025) d_Mo_shape_1025 rfl) ?_
              refine px (fun _ => pm_aload_n (pc := 1026) d_Mo_shape_1026 rfl) ?_
              refine px (fun _ => pm_getf fl_Mo_13 (pc := 1027) d_Mo_shape_1027 H.1 rfl) ?_
              refine px (fun _ => pm_iload_n (pc := 1030) d_Mo_shape_1030 rfl) ?_
              refine px (fun _ => pm_iald (j := a) (pc := 1031) d_Mo_shape_1031 H.2.2.1 (rfl) (ha) (by decide)) ?_
              rw [ta.1]
              refine px (fun _ => pm_iload (pc := 1032) d_Mo_shape_1032 rfl) ?_
              refine px (fun _ => pm_iload (pc := 1034) d_Mo_shape_1034 rfl) ?_
              obtain ⟨⟨o22, h22⟩, ⟨e22, H22, F22⟩, en22⟩ := m_give (l := l) (G := G) (fi := fi) (T := T) (t := (gT S a 0)) (r := (gT S a 1)) (c := (gT S a 2)) hl H hn ho ho9 (by omega) (by omega)
              dsimp only at e22 H22 F22
              subst e22
              refine px (fun _ => k_Mo_shape_1036 (kc1 := 0) (ks1 := 0) (kc := 0) (ks := 0) (av := [.int (nI n), .int (nI (gT S a 0)), .int (nI (gT S a 1)), .int (nI (gT S a 2))]) (st := []) H.1 (en22) rfl rfl (Nat.le_of_ble_eq_true rfl)) ?_
              refine pxb (fun _ => pm_if_eq (pc := 1039) (tgt := 1046) d_Mo_shape_1039 (by decide)) (fun c_23 => ?_) (fun c_23 => ?_)
              · have n_c_23 : ¬ ((1 ≤ (gT S a 1) ∧ (gT S a 1) ≤ 4) ∧ 1 ≤ (gT S a 2) ∧ (gT S a 2) ≤ 4) := g_if0.mp c_23
                refine px (fun _ => pm_iconst (v := 0) (pc := 1046) d_Mo_shape_1046 rfl) ?_
                exact pxr (pm_iret (pc := 1047) d_Mo_shape_1047 rfl rfl) (m_PX_n H22 (F22) (by first | (exact if_neg (by first | omega | assumption)) | (rw [if_pos (by first | omega | assumption)]; exact g_sh_n (by first | omega | assumption))))
              · have n_c_23 : (1 ≤ (gT S a 1) ∧ (gT S a 1) ≤ 4) ∧ 1 ≤ (gT S a 2) ∧ (gT S a 2) ≤ 4 := Decidable.byContradiction fun q => c_23 (g_if0.mpr q)
                refine px (fun _ => pm_iconst (v := 1) (pc := 1042) d_Mo_shape_1042 rfl) ?_
                refine px (fun _ => pm_goto (tgt := 1047) (pc := 1043) d_Mo_shape_1043 (by decide)) ?_
                exact pxr (pm_iret (pc := 1047) d_Mo_shape_1047 rfl rfl) (m_PX_y H22 (F22) (by rw [if_pos (by first | omega | assumption)]; exact g_sh_y (by first | omega | assumption)))
