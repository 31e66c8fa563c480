/-! ===== the model: cells read, numbers joined ===== -/
theorem g_ag_eq {S : gS} {a x y : Nat} (hx : x < gT S a 1) (hy : y < gT S a 2) : g_ag S a x y = gC S a (x * 4 + y) := by
  unfold g_ag
  by_cases h1 : gT S a 1 = 1
  · obtain rfl : x = 0 := by omega
    by_cases h2 : gT S a 2 = 1
    · obtain rfl : y = 0 := by omega
      rw [if_pos h1, if_pos h2]
    · rw [if_pos h1, if_neg h2]
  · by_cases h2 : gT S a 2 = 1
    · obtain rfl : y = 0 := by omega
      rw [if_neg h1, if_pos h2]
    · rw [if_neg h1, if_neg h2]
def m_tb (T : mS) (t : Nat) : mS := if mG T 4 = 0 then msG T 4 t else T
set_option maxHeartbeats 1000000 in
set_option maxRecDepth 20000 in
theorem m_at {l : Launch} {G : pm_G} {fi : Bool} {h : pm_H} {S : gS} {T : mS} {s i j : Nat} (hl : l.stackTraces = false) (H : mH T h) (hs : s < 20) (ht : mTb S T s) (hc : mCl S T s) (hr : g_rng S s) (hi4 : i < 4) (hj4 : j < 4) (hi : gT S s 1 = 1 ∨ i < gT S s 1) (hj : gT S s 2 = 1 ∨ j < gT S s 2) : pm_En l G fi fi 0 0 M_Mo_at [.ref (95), .int (nI s), .int (nI i), .int (nI j)] h (.inl (some (.double (g_ag S s i j))), h) := by
  refine pm_Cn.eq (pm_Cn.of hl (by decide) (Nat.le_of_ble_eq_true rfl) ?_)
  obtain ⟨t1, t2, t3⟩ := id ht
  obtain ⟨r1, r2, r3, r4, r5⟩ := id hr
  refine px (fun _ => pm_aload_n (pc := 0) d_Mo_at_0 rfl) ?_
  refine px (fun _ => pm_getf fl_Mo_25 (pc := 1) d_Mo_at_1 H.1 rfl) ?_
  refine px (fun _ => pm_iload_n (pc := 4) d_Mo_at_4 rfl) ?_
  refine px (fun _ => pm_bipush (v := 16) (pc := 5) d_Mo_at_5 rfl) ?_
  refine px (fun _ => pm_imulN (a := s) (b := 16) (pc := 7) d_Mo_at_7) ?_
  refine px (fun _ => pm_aload_n (pc := 8) d_Mo_at_8 rfl) ?_
  refine px (fun _ => pm_getf fl_Mo_16 (pc := 9) d_Mo_at_9 H.1 rfl) ?_
  refine px (fun _ => pm_iload_n (pc := 12) d_Mo_at_12 rfl) ?_
  refine px (fun _ => pm_iald (j := s) (pc := 13) d_Mo_at_13 H.2.2.2.1 (rfl) (hs) (by decide)) ?_
  refine px (fun _ => pm_iconst (v := 1) (pc := 14) d_Mo_at_14 rfl) ?_
  refine pxn (fun _ => pm_icmp_ne (pc := 15) (tgt := 22) d_Mo_at_15 (by decide)) (fun c_1 => ?_) (fun c_1 => ?_)
  · have n_c_1 : ¬ ((mA T 2 s) = 1) := fun zq => c_1 ((nI_eq (a := (mA T 2 s)) (b := 1) (by omega) (by omega)).mpr zq)
    refine px (fun _ => pm_iload_n (pc := 22) d_Mo_at_22 rfl) ?_
    refine px (fun _ => pm_iconst (v := 4) (pc := 23) d_Mo_at_23 rfl) ?_
    refine px (fun _ => pm_imulN (a := i) (b := 4) (pc := 24) d_Mo_at_24) ?_
    refine px (fun _ => pm_iaddN (a := (s * 16)) (b := (i * 4)) (pc := 25) d_Mo_at_25) ?_
    refine px (fun _ => pm_aload_n (pc := 26) d_Mo_at_26 rfl) ?_
    refine px (fun _ => pm_getf fl_Mo_19 (pc := 27) d_Mo_at_27 H.1 rfl) ?_
    refine px (fun _ => pm_iload_n (pc := 30) d_Mo_at_30 rfl) ?_
    refine px (fun _ => pm_iald (j := s) (pc := 31) d_Mo_at_31 H.2.2.2.2.1 (rfl) (hs) (by decide)) ?_
    refine px (fun _ => pm_iconst (v := 1) (pc := 32) d_Mo_at_32 rfl) ?_
    refine pxn (fun _ => pm_icmp_ne (pc := 33) (tgt := 40) d_Mo_at_33 (by decide)) (fun c_2 => ?_) (fun c_2 => ?_)
    · have n_c_2 : ¬ ((mA T 3 s) = 1) := fun zq => c_2 ((nI_eq (a := (mA T 3 s)) (b := 1) (by omega) (by omega)).mpr zq)
      refine px (fun _ => pm_iload_n (pc := 40) d_Mo_at_40 rfl) ?_
      refine px (fun _ => pm_iaddN (a := ((s * 16) + (i * 4))) (b := j) (pc := 41) d_Mo_at_41) ?_
      refine px (fun _ => pm_dald (j := ((s * 16) + (i * 4)) + j) (pc := 42) d_Mo_at_42 H.2.2.2.2.2.2.1 (rfl) (by omega) (by decide)) ?_
      exact pxr (pm_dret (pc := 43) d_Mo_at_43 rfl) (by have e9 := hc i j (by omega) (by omega); have e8 : g_ag S s i j = mV T (((s * 16) + (i * 4)) + j) := by { unfold g_ag; rw [if_neg (by omega), if_neg (by omega)]; exact e9.symm }; rw [e8])
    · have n_c_2 : (mA T 3 s) = 1 := (nI_eq (a := (mA T 3 s)) (b := 1) (by omega) (by omega)).mp c_2
      refine px (fun _ => pm_iconst (v := 0) (pc := 36) d_Mo_at_36 rfl) ?_
      refine px (fun _ => pm_goto (tgt := 41) (pc := 37) d_Mo_at_37 (by decide)) ?_
      refine px (fun _ => pm_iaddN (a := ((s * 16) + (i * 4))) (b := 0) (pc := 41) d_Mo_at_41) ?_
      refine px (fun _ => pm_dald (j := ((s * 16) + (i * 4)) + 0) (pc := 42) d_Mo_at_42 H.2.2.2.2.2.2.1 (rfl) (by omega) (by decide)) ?_
      exact pxr (pm_dret (pc := 43) d_Mo_at_43 rfl) (by have e9 := hc i 0 (by omega) (by omega); have e8 : g_ag S s i j = mV T (((s * 16) + (i * 4)) + 0) := by { unfold g_ag; rw [if_neg (by omega), if_pos (by omega)]; exact e9.symm }; rw [e8])
  · have n_c_1 : (mA T 2 s) = 1 := (nI_eq (a := (mA T 2 s)) (b := 1) (by omega) (by omega)).mp c_1
    refine px (fun _ => pm_iconst (v := 0) (pc := 18) d_Mo_at_18 rfl) ?_
    refine px (fun _ => pm_goto (tgt := 23) (pc := 19) d_Mo_at_19 (by decide)) ?_
    refine px (fun _ => pm_iconst (v := 4) (pc := 23) d_Mo_at_23 rfl) ?_
    refine px (fun _ => pm_imulN (a := 0) (b := 4) (pc := 24) d_Mo_at_24) ?_
    refine px (fun _ => pm_iaddN (a := (s * 16)) (b := (0 * 4)) (pc := 25) d_Mo_at_25) ?_
    refine px (fun _ => pm_aload_n (pc := 26) d_Mo_at_26 rfl) ?_
    refine px (fun _ => pm_getf fl_Mo_19 (pc := 27) d_Mo_at_27 H.1 rfl) ?_
    refine px (fun _ => pm_iload_n (pc := 30) d_Mo_at_30 rfl) ?_
    refine px (fun _ => pm_iald (j := s) (pc := 31) d_Mo_at_31 H.2.2.2.2.1 (rfl) (hs) (by decide)) ?_
    refine px (fun _ => pm_iconst (v := 1) (pc := 32) d_Mo_at_32 rfl) ?_
    refine pxn (fun _ => pm_icmp_ne (pc := 33) (tgt := 40) d_Mo_at_33 (by decide)) (fun c_3 => ?_) (fun c_3 => ?_)
    · have n_c_3 : ¬ ((mA T 3 s) = 1) := fun zq => c_3 ((nI_eq (a := (mA T 3 s)) (b := 1) (by omega) (by omega)).mpr zq)
      refine px (fun _ => pm_iload_n (pc := 40) d_Mo_at_40 rfl) ?_
      refine px (fun _ => pm_iaddN (a := ((s * 16) + (0 * 4))) (b := j) (pc := 41) d_Mo_at_41) ?_
      refine px (fun _ => pm_dald (j := ((s * 16) + (0 * 4)) + j) (pc := 42) d_Mo_at_42 H.2.2.2.2.2.2.1 (rfl) (by omega) (by decide)) ?_
      exact pxr (pm_dret (pc := 43) d_Mo_at_43 rfl) (by have e9 := hc 0 j (by omega) (by omega); have e8 : g_ag S s i j = mV T (((s * 16) + (0 * 4)) + j) := by { unfold g_ag; rw [if_pos (by omega), if_neg (by omega)]; exact e9.symm }; rw [e8])
    · have n_c_3 : (mA T 3 s) = 1 := (nI_eq (a := (mA T 3 s)) (b := 1) (by omega) (by omega)).mp c_3
      refine px (fun _ => pm_iconst (v := 0) (pc := 36) d_Mo_at_36 rfl) ?_
      refine px (fun _ => pm_goto (tgt := 41) (pc := 37) d_Mo_at_37 (by decide)) ?_
      refine px (fun _ => pm_iaddN (a := ((s * 16) + (0 * 4))) (b := 0) (pc := 41) d_Mo_at_41) ?_
      refine px (fun _ => pm_dald (j := ((s * 16) + (0 * 4)) + 0) (pc := 42) d_Mo_at_42 H.2.2.2.2.2.2.1 (rfl) (by omega) (by decide)) ?_
      exact pxr (pm_dret (pc := 43) d_Mo_at_43 rfl) (by have e9 := hc 0 0 (by omega) (by omega); have e8 : g_ag S s i j = mV T (((s * 16) + (0 * 4)) + 0) := by { unfold g_ag; rw [if_pos (by omega), if_pos (by omega)]; exact e9.symm }; rw [e8])
theorem m_at2 {l : Launch} {G : pm_G} {fi : Bool} {h : pm_H} {S : gS} {T : mS} {s i j : Nat} (hl : l.stackTraces = false) (H : mH T h) (hs : s < 20) (ht : mTb S T s) (hc : mCl S T s) (hr : g_rng S s) (hi : i < gT S s 1) (hj : j < gT S s 2) : pm_En l G fi fi 0 0 M_Mo_at [.ref 95, .int (nI s), .int (nI i), .int (nI j)] h (.inl (some (.double (gC S s (i * 4 + j)))), h) := by
  obtain ⟨r1, r2, r3, r4, r5⟩ := id hr
  rw [← g_ag_eq hi hj]
  exact m_at hl H hs ht hc hr (by omega) (by omega) (Or.inr hi) (Or.inr hj)
set_option maxHeartbeats 1000000 in
set_option maxRecDepth 20000 in
theorem m_trouble3 {l : Launch} {G : pm_G} {fi : Bool} {h : pm_H} {T : mS} (hl : l.stackTraces = false) (H : mH T h) (hn : mG T 4 ≤ 4) : pm_Cn l G fi fi 0 0 M_Mo_trouble [.ref 95, .int 3] h (m_P none (m_tb T 3) h) := by
  refine pm_Cn.of hl (by decide) (Nat.le_of_ble_eq_true rfl) ?_
  refine px (fun _ => pm_aload_n (pc := 0) d_Mo_trouble_0 rfl) ?_
  refine px (fun _ => pm_getf fl_Mo_108 (pc := 1) d_Mo_trouble_1 H.1 rfl) ?_
  refine pxn (fun _ => pm_if_ne (pc := 4) (tgt := 12) d_Mo_trouble_4 (by decide)) (fun c_1 => ?_) (fun c_1 => ?_)
  · have n_c_1 : ¬ ((mG T 4) = 0) := fun zq => c_1 ((nI_eq (a := (mG T 4)) (b := 0) (by omega) (by omega)).mpr zq)
    exact pxr (pm_vret (pc := 12) d_Mo_trouble_12 rfl) ⟨rfl, by unfold m_tb; rw [if_neg (by omega)]; exact H, mFr.rf _⟩
  · have n_c_1 : (mG T 4) = 0 := (nI_eq (a := (mG T 4)) (b := 0) (by omega) (by omega)).mp c_1
    refine px (fun _ => pm_aload_n (pc := 7) d_Mo_trouble_7 rfl) ?_
    refine px (fun _ => pm_iload_n (pc := 8) d_Mo_trouble_8 rfl) ?_
    refine px (fun _ => pm_putfC (c' := pm_Ob 4 [.ref (96), .ref (97), .ref (98), .ref (99), .ref (100), .ref (101), .ref (102), .ref (103), .ref (104), .ref (105), .ref (106), .ref (107), .ref (108), .ref (109), .int (nI (mG T 0)), .int (nI (mG T 1)), .int (nI (mG T 2)), .int (nI (mG T 3)), .int (3), .int (nI (mG T 5)), .int (nI (mG T 6))]) fp_Mo_108 (pc := 9) d_Mo_trouble_9 H.1 (Nat.le_of_ble_eq_true rfl) rfl rfl rfl) ?_
    have H_2 : mH (msG T 4 3) (h.set (95) (pm_Ob 4 [.ref (96), .ref (97), .ref (98), .ref (99), .ref (100), .ref (101), .ref (102), .ref (103), .ref (104), .ref (105), .ref (106), .ref (107), .ref (108), .ref (109), .int (nI (mG T 0)), .int (nI (mG T 1)), .int (nI (mG T 2)), .int (nI (mG T 3)), .int (3), .int (nI (mG T 5)), .int (nI (mG T 6))])) := H.G4 (v := 3)
    exact pxr (pm_vret (pc := 12) d_Mo_trouble_12 rfl) ⟨rfl, by unfold m_tb; rw [if_pos (by omega)]; exact H_2, (mFr.set _ _ (by omega))⟩
set_option maxHeartbeats 1000000 in
set_option maxRecDepth 20000 in
theorem m_trouble4 {l : Launch} {G : pm_G} {fi : Bool} {h : pm_H} {T : mS} (hl : l.stackTraces = false) (H : mH T h) (hn : mG T 4 ≤ 4) : pm_Cn l G fi fi 0 0 M_Mo_trouble [.ref 95, .int 4] h (m_P none (m_tb T 4) h) := by
  refine pm_Cn.of hl (by decide) (Nat.le_of_ble_eq_true rfl) ?_
  refine px (fun _ => pm_aload_n (pc := 0) d_Mo_trouble_0 rfl) ?_
  refine px (fun _ => pm_getf fl_Mo_108 (pc := 1) d_Mo_trouble_1 H.1 rfl) ?_
  refine pxn (fun _ => pm_if_ne (pc := 4) (tgt := 12) d_Mo_trouble_4 (by decide)) (fun c_1 => ?_) (fun c_1 => ?_)
  · have n_c_1 : ¬ ((mG T 4) = 0) := fun zq => c_1 ((nI_eq (a := (mG T 4)) (b := 0) (by omega) (by omega)).mpr zq)
    exact pxr (pm_vret (pc := 12) d_Mo_trouble_12 rfl) ⟨rfl, by unfold m_tb; rw [if_neg (by omega)]; exact H, mFr.rf _⟩
  · have n_c_1 : (mG T 4) = 0 := (nI_eq (a := (mG T 4)) (b := 0) (by omega) (by omega)).mp c_1
    refine px (fun _ => pm_aload_n (pc := 7) d_Mo_trouble_7 rfl) ?_
    refine px (fun _ => pm_iload_n (pc := 8) d_Mo_trouble_8 rfl) ?_
    refine px (fun _ => pm_putfC (c' := pm_Ob 4 [.ref (96), .ref (97), .ref (98), .ref (99), .ref (100), .ref (101), .ref (102), .ref (103), .ref (104), .ref (105), .ref (106), .ref (107), .ref (108), .ref (109), .int (nI (mG T 0)), .int (nI (mG T 1)), .int (nI (mG T 2)), .int (nI (mG T 3)), .int (4), .int (nI (mG T 5)), .int (nI (mG T 6))]) fp_Mo_108 (pc := 9) d_Mo_trouble_9 H.1 (Nat.le_of_ble_eq_true rfl) rfl rfl rfl) ?_
    have H_2 : mH (msG T 4 4) (h.set (95) (pm_Ob 4 [.ref (96), .ref (97), .ref (98), .ref (99), .ref (100), .ref (101), .ref (102), .ref (103), .ref (104), .ref (105), .ref (106), .ref (107), .ref (108), .ref (109), .int (nI (mG T 0)), .int (nI (mG T 1)), .int (nI (mG T 2)), .int (nI (mG T 3)), .int (4), .int (nI (mG T 5)), .int (nI (mG T 6))])) := H.G4 (v := 4)
    exact pxr (pm_vret (pc := 12) d_Mo_trouble_12 rfl) ⟨rfl, by unfold m_tb; rw [if_pos (by omega)]; exact H_2, (mFr.set _ _ (by omega))⟩
set_option maxHeartbeats 1000000 in
set_option maxRecDepth 20000 in
theorem m_plain0i {l : Launch} {G : pm_G} {fi : Bool} {h : pm_H} {S : gS} {T : mS} {x y : UInt64} (hl : l.stackTraces = false) (H : mH T h)  : pm_En l G fi fi 0 0 M_Mo_plain [.ref (95), .int (0), .double (x), .double (y), .int (1)] h (.inl (some (.double (FP.i2d (g_pi 0 (FP.d2i x) (FP.d2i y))))), h) := by
  refine pm_Cn.eq (pm_Cn.of hl (by decide) (Nat.le_of_ble_eq_true rfl) ?_)
  refine px (fun _ => pm_iload (pc := 0) d_Mo_plain_0 rfl) ?_
  refine pxb (fun _ => pm_if_eq (pc := 2) (tgt := 86) d_Mo_plain_2 (by decide)) (fun c_1 => absurd c_1 (by decide)) (fun c_1 => ?_)
  refine px (fun _ => pm_dload_n (pc := 5) d_Mo_plain_5 rfl) ?_
  refine px (fun _ => pm_d2i (pc := 6) d_Mo_plain_6) ?_
  refine px (fun _ => pm_istore (lv' := [(7, .int ((FP.d2i (x)))), (0, .ref (95)), (1, .int (0)), (2, .double (x)), (4, .double (y)), (6, .int (1))]) (pc := 7) d_Mo_plain_7 (by decide) rfl) ?_
  refine px (fun _ => pm_dload (pc := 9) d_Mo_plain_9 rfl) ?_
  refine px (fun _ => pm_d2i (pc := 11) d_Mo_plain_11) ?_
  refine px (fun _ => pm_istore (lv' := [(8, .int ((FP.d2i (y)))), (7, .int ((FP.d2i (x)))), (0, .ref (95)), (1, .int (0)), (2, .double (x)), (4, .double (y)), (6, .int (1))]) (pc := 12) d_Mo_plain_12 (by decide) rfl) ?_
  refine px (fun _ => pm_iload_n (pc := 14) d_Mo_plain_14 rfl) ?_
  refine px (fun _ => pm_iconst (v := 3) (pc := 15) d_Mo_plain_15 rfl) ?_
  refine pxn (fun _ => pm_icmp_ne (pc := 16) (tgt := 29) d_Mo_plain_16 (by decide)) (fun c_2 => ?_) (fun c_2 => absurd c_2 (by decide))
  refine px (fun _ => pm_iload_n (pc := 29) d_Mo_plain_29 rfl) ?_
  refine pxn (fun _ => pm_if_ne (pc := 30) (tgt := 42) d_Mo_plain_30 (by decide)) (fun c_3 => absurd (by decide) c_3) (fun c_3 => ?_)
  refine px (fun _ => pm_iload (pc := 33) d_Mo_plain_33 rfl) ?_
  refine px (fun _ => pm_iload (pc := 35) d_Mo_plain_35 rfl) ?_
  refine px (fun _ => pm_iadd (pc := 37) d_Mo_plain_37) ?_
  refine px (fun _ => pm_i2d (pc := 38) d_Mo_plain_38) ?_
  refine px (fun _ => pm_goto (tgt := 85) (pc := 39) d_Mo_plain_39 (by decide)) ?_
  exact pxr (pm_dret (pc := 85) d_Mo_plain_85 rfl) (rfl)
set_option maxHeartbeats 1000000 in
set_option maxRecDepth 20000 in
theorem m_plain0f {l : Launch} {G : pm_G} {fi : Bool} {h : pm_H} {S : gS} {T : mS} {x y : UInt64} (hl : l.stackTraces = false) (H : mH T h) (hn : vf_n64 (FP.dadd x y)) : pm_En l G fi fi 0 0 M_Mo_plain [.ref (95), .int (0), .double (x), .double (y), .int (0)] h (.inl (some (.double (g_pf 0 x y))), h) := by
  refine pm_Cn.eq (pm_Cn.of hl (by decide) (Nat.le_of_ble_eq_true rfl) ?_)
  refine px (fun _ => pm_iload (pc := 0) d_Mo_plain_0 rfl) ?_
  refine pxb (fun _ => pm_if_eq (pc := 2) (tgt := 86) d_Mo_plain_2 (by decide)) (fun c_1 => ?_) (fun c_1 => absurd (by decide) c_1)
  refine px (fun _ => pm_iload_n (pc := 86) d_Mo_plain_86 rfl) ?_
  refine px (fun _ => pm_iconst (v := 3) (pc := 87) d_Mo_plain_87 rfl) ?_
  refine pxn (fun _ => pm_icmp_ne (pc := 88) (tgt := 103) d_Mo_plain_88 (by decide)) (fun c_2 => ?_) (fun c_2 => absurd c_2 (by decide))
  refine px (fun _ => pm_iload_n (pc := 103) d_Mo_plain_103 rfl) ?_
  refine pxn (fun _ => pm_if_ne (pc := 104) (tgt := 114) d_Mo_plain_104 (by decide)) (fun c_3 => absurd (by decide) c_3) (fun c_3 => ?_)
  refine px (fun _ => pm_dload_n (pc := 107) d_Mo_plain_107 rfl) ?_
  refine px (fun _ => pm_dload (pc := 108) d_Mo_plain_108 rfl) ?_
  refine px (fun _ => pm_dadd (pc := 110) d_Mo_plain_110 (hn)) ?_
  refine px (fun _ => pm_goto (tgt := 153) (pc := 111) d_Mo_plain_111 (by decide)) ?_
  exact pxr (pm_dret (pc := 153) d_Mo_plain_153 rfl) (rfl)
set_option maxHeartbeats 1000000 in
set_option maxRecDepth 20000 in
theorem m_plain1i {l : Launch} {G : pm_G} {fi : Bool} {h : pm_H} {S : gS} {T : mS} {x y : UInt64} (hl : l.stackTraces = false) (H : mH T h)  : pm_En l G fi fi 0 0 M_Mo_plain [.ref (95), .int (1), .double (x), .double (y), .int (1)] h (.inl (some (.double (FP.i2d (g_pi 1 (FP.d2i x) (FP.d2i y))))), h) := by
  refine pm_Cn.eq (pm_Cn.of hl (by decide) (Nat.le_of_ble_eq_true rfl) ?_)
  refine px (fun _ => pm_iload (pc := 0) d_Mo_plain_0 rfl) ?_
  refine pxb (fun _ => pm_if_eq (pc := 2) (tgt := 86) d_Mo_plain_2 (by decide)) (fun c_1 => absurd c_1 (by decide)) (fun c_1 => ?_)
  refine px (fun _ => pm_dload_n (pc := 5) d_Mo_plain_5 rfl) ?_
  refine px (fun _ => pm_d2i (pc := 6) d_Mo_plain_6) ?_
  refine px (fun _ => pm_istore (lv' := [(7, .int ((FP.d2i (x)))), (0, .ref (95)), (1, .int (1)), (2, .double (x)), (4, .double (y)), (6, .int (1))]) (pc := 7) d_Mo_plain_7 (by decide) rfl) ?_
  refine px (fun _ => pm_dload (pc := 9) d_Mo_plain_9 rfl) ?_
  refine px (fun _ => pm_d2i (pc := 11) d_Mo_plain_11) ?_
  refine px (fun _ => pm_istore (lv' := [(8, .int ((FP.d2i (y)))), (7, .int ((FP.d2i (x)))), (0, .ref (95)), (1, .int (1)), (2, .double (x)), (4, .double (y)), (6, .int (1))]) (pc := 12) d_Mo_plain_12 (by decide) rfl) ?_
  refine px (fun _ => pm_iload_n (pc := 14) d_Mo_plain_14 rfl) ?_
  refine px (fun _ => pm_iconst (v := 3) (pc := 15) d_Mo_plain_15 rfl) ?_
  refine pxn (fun _ => pm_icmp_ne (pc := 16) (tgt := 29) d_Mo_plain_16 (by decide)) (fun c_2 => ?_) (fun c_2 => absurd c_2 (by decide))
  refine px (fun _ => pm_iload_n (pc := 29) d_Mo_plain_29 rfl) ?_
  refine pxn (fun _ => pm_if_ne (pc := 30) (tgt := 42) d_Mo_plain_30 (by decide)) (fun c_3 => ?_) (fun c_3 => absurd c_3 (by decide))
  refine px (fun _ => pm_iload_n (pc := 42) d_Mo_plain_42 rfl) ?_
  refine px (fun _ => pm_iconst (v := 1) (pc := 43) d_Mo_plain_43 rfl) ?_
  refine pxn (fun _ => pm_icmp_ne (pc := 44) (tgt := 56) d_Mo_plain_44 (by decide)) (fun c_4 => absurd (by decide) c_4) (fun c_4 => ?_)
  refine px (fun _ => pm_iload (pc := 47) d_Mo_plain_47 rfl) ?_
  refine px (fun _ => pm_iload (pc := 49) d_Mo_plain_49 rfl) ?_
  refine px (fun _ => pm_isub (pc := 51) d_Mo_plain_51) ?_
  refine px (fun _ => pm_i2d (pc := 52) d_Mo_plain_52) ?_
  refine px (fun _ => pm_goto (tgt := 85) (pc := 53) d_Mo_plain_53 (by decide)) ?_
  exact pxr (pm_dret (pc := 85) d_Mo_plain_85 rfl) (rfl)
set_option maxHeartbeats 1000000 in
set_option maxRecDepth 20000 in
theorem m_plain1f {l : Launch} {G : pm_G} {fi : Bool} {h : pm_H} {S : gS} {T : mS} {x y : UInt64} (hl : l.stackTraces = false) (H : mH T h) (hn : vf_n64 (FP.dsub x y)) : pm_En l G fi fi 0 0 M_Mo_plain [.ref (95), .int (1), .double (x), .double (y), .int (0)] h (.inl (some (.double (g_pf 1 x y))), h) := by
  refine pm_Cn.eq (pm_Cn.of hl (by decide) (Nat.le_of_ble_eq_true rfl) ?_)
  refine px (fun _ => pm_iload (pc := 0) d_Mo_plain_0 rfl) ?_
  refine pxb (fun _ => pm_if_eq (pc := 2) (tgt := 86) d_Mo_plain_2 (by decide)) (fun c_1 => ?_) (fun c_1 => absurd (by decide) c_1)
  refine px (fun _ => pm_iload_n (pc := 86) d_Mo_plain_86 rfl) ?_
  refine px (fun _ => pm_iconst (v := 3) (pc := 87) d_Mo_plain_87 rfl) ?_
  refine pxn (fun _ => pm_icmp_ne (pc := 88) (tgt := 103) d_Mo_plain_88 (by decide)) (fun c_2 => ?_) (fun c_2 => absurd c_2 (by decide))
  refine px (fun _ => pm_iload_n (pc := 103) d_Mo_plain_103 rfl) ?_
  refine pxn (fun _ => pm_if_ne (pc := 104) (tgt := 114) d_Mo_plain_104 (by decide)) (fun c_3 => ?_) (fun c_3 => absurd c_3 (by decide))
  refine px (fun _ => pm_iload_n (pc := 114) d_Mo_plain_114 rfl) ?_
  refine px (fun _ => pm_iconst (v := 1) (pc := 115) d_Mo_plain_115 rfl) ?_
  refine pxn (fun _ => pm_icmp_ne (pc := 116) (tgt := 126) d_Mo_plain_116 (by decide)) (fun c_4 => absurd (by decide) c_4) (fun c_4 => ?_)
  refine px (fun _ => pm_dload_n (pc := 119) d_Mo_plain_119 rfl) ?_
  refine px (fun _ => pm_dload (pc := 120) d_Mo_plain_120 rfl) ?_
  refine px (fun _ => pm_dsub (pc := 122) d_Mo_plain_122 (hn)) ?_
  refine px (fun _ => pm_goto (tgt := 153) (pc := 123) d_Mo_plain_123 (by decide)) ?_
  exact pxr (pm_dret (pc := 153) d_Mo_plain_153 rfl) (rfl)
set_option maxHeartbeats 1000000 in
set_option maxRecDepth 20000 in
theorem m_plain2i {l : Launch} {G : pm_G} {fi : Bool} {h : pm_H} {S : gS} {T : mS} {x y : UInt64} (hl : l.stackTraces = false) (H : mH T h)  : pm_En l G fi fi 0 0 M_Mo_plain [.ref (95), .int (2), .double (x), .double (y), .int (1)] h (.inl (some (.double (FP.i2d (g_pi 2 (FP.d2i x) (FP.d2i y))))), h) := by
  refine pm_Cn.eq (pm_Cn.of hl (by decide) (Nat.le_of_ble_eq_true rfl) ?_)
  refine px (fun _ => pm_iload (pc := 0) d_Mo_plain_0 rfl) ?_
  refine pxb (fun _ => pm_if_eq (pc := 2) (tgt := 86) d_Mo_plain_2 (by decide)) (fun c_1 => absurd c_1 (by decide)) (fun c_1 => ?_)
  refine px (fun _ => pm_dload_n (pc := 5) d_Mo_plain_5 rfl) ?_
  refine px (fun _ => pm_d2i (pc := 6) d_Mo_plain_6) ?_
  refine px (fun _ => pm_istore (lv' := [(7, .int ((FP.d2i (x)))), (0, .ref (95)), (1, .int (2)), (2, .double (x)), (4, .double (y)), (6, .int (1))]) (pc := 7) d_Mo_plain_7 (by decide) rfl) ?_
  refine px (fun _ => pm_dload (pc := 9) d_Mo_plain_9 rfl) ?_
  refine px (fun _ => pm_d2i (pc := 11) d_Mo_plain_11) ?_
  refine px (fun _ => pm_istore (lv' := [(8, .int ((FP.d2i (y)))), (7, .int ((FP.d2i (x)))), (0, .ref (95)), (1, .int (2)), (2, .double (x)), (4, .double (y)), (6, .int (1))]) (pc := 12) d_Mo_plain_12 (by decide) rfl) ?_
  refine px (fun _ => pm_iload_n (pc := 14) d_Mo_plain_14 rfl) ?_
  refine px (fun _ => pm_iconst (v := 3) (pc := 15) d_Mo_plain_15 rfl) ?_
  refine pxn (fun _ => pm_icmp_ne (pc := 16) (tgt := 29) d_Mo_plain_16 (by decide)) (fun c_2 => ?_) (fun c_2 => absurd c_2 (by decide))
  refine px (fun _ => pm_iload_n (pc := 29) d_Mo_plain_29 rfl) ?_
  refine pxn (fun _ => pm_if_ne (pc := 30) (tgt := 42) d_Mo_plain_30 (by decide)) (fun c_3 => ?_) (fun c_3 => absurd c_3 (by decide))
  refine px (fun _ => pm_iload_n (pc := 42) d_Mo_plain_42 rfl) ?_
  refine px (fun _ => pm_iconst (v := 1) (pc := 43) d_Mo_plain_43 rfl) ?_
  refine pxn (fun _ => pm_icmp_ne (pc := 44) (tgt := 56) d_Mo_plain_44 (by decide)) (fun c_4 => ?_) (fun c_4 => absurd c_4 (by decide))
  refine px (fun _ => pm_iload_n (pc := 56) d_Mo_plain_56 rfl) ?_
  refine px (fun _ => pm_iconst (v := 2) (pc := 57) d_Mo_plain_57 rfl) ?_
  refine pxn (fun _ => pm_icmp_ne (pc := 58) (tgt := 70) d_Mo_plain_58 (by decide)) (fun c_5 => absurd (by decide) c_5) (fun c_5 => ?_)
  refine px (fun _ => pm_iload (pc := 61) d_Mo_plain_61 rfl) ?_
  refine px (fun _ => pm_iload (pc := 63) d_Mo_plain_63 rfl) ?_
  refine px (fun _ => pm_imul (pc := 65) d_Mo_plain_65) ?_
  refine px (fun _ => pm_i2d (pc := 66) d_Mo_plain_66) ?_
  refine px (fun _ => pm_goto (tgt := 85) (pc := 67) d_Mo_plain_67 (by decide)) ?_
  exact pxr (pm_dret (pc := 85) d_Mo_plain_85 rfl) (rfl)
set_option maxHeartbeats 1000000 in
set_option maxRecDepth 20000 in
theorem m_plain2f {l : Launch} {G : pm_G} {fi : Bool} {h : pm_H} {S : gS} {T : mS} {x y : UInt64} (hl : l.stackTraces = false) (H : mH T h) (hn : vf_n64 (FP.dmul x y)) : pm_En l G fi fi 0 0 M_Mo_plain [.ref (95), .int (2), .double (x), .double (y), .int (0)] h (.inl (some (.double (g_pf 2 x y))), h) := by
  refine pm_Cn.eq (pm_Cn.of hl (by decide) (Nat.le_of_ble_eq_true rfl) ?_)
  refine px (fun _ => pm_iload (pc := 0) d_Mo_plain_0 rfl) ?_
  refine pxb (fun _ => pm_if_eq (pc := 2) (tgt := 86) d_Mo_plain_2 (by decide)) (fun c_1 => ?_) (fun c_1 => absurd (by decide) c_1)
  refine px (fun _ => pm_iload_n (pc := 86) d_Mo_plain_86 rfl) ?_
  refine px (fun _ => pm_iconst (v := 3) (pc := 87) d_Mo_plain_87 rfl) ?_
  refine pxn (fun _ => pm_icmp_ne (pc := 88) (tgt := 103) d_Mo_plain_88 (by decide)) (fun c_2 => ?_) (fun c_2 => absurd c_2 (by decide))
  refine px (fun _ => pm_iload_n (pc := 103) d_Mo_plain_103 rfl) ?_
  refine pxn (fun _ => pm_if_ne (pc := 104) (tgt := 114) d_Mo_plain_104 (by decide)) (fun c_3 => ?_) (fun c_3 => absurd c_3 (by decide))
  refine px (fun _ => pm_iload_n (pc := 114) d_Mo_plain_114 rfl) ?_
  refine px (fun _ => pm_iconst (v := 1) (pc := 115) d_Mo_plain_115 rfl) ?_
  refine pxn (fun _ => pm_icmp_ne (pc := 116) (tgt := 126) d_Mo_plain_116 (by decide)) (fun c_4 => ?_) (fun c_4 => absurd c_4 (by decide))
  refine px (fun _ => pm_iload_n (pc := 126) d_Mo_plain_126 rfl) ?_
  refine px (fun _ => pm_iconst (v := 2) (pc := 127) d_Mo_plain_127 rfl) ?_
  refine pxn (fun _ => pm_icmp_ne (pc := 128) (tgt := 138) d_Mo_plain_128 (by decide)) (fun c_5 => absurd (by decide) c_5) (fun c_5 => ?_)
  refine px (fun _ => pm_dload_n (pc := 131) d_Mo_plain_131 rfl) ?_
  refine px (fun _ => pm_dload (pc := 132) d_Mo_plain_132 rfl) ?_
  refine px (fun _ => pm_dmul (pc := 134) d_Mo_plain_134 (hn)) ?_
  refine px (fun _ => pm_goto (tgt := 153) (pc := 135) d_Mo_plain_135 (by decide)) ?_
  exact pxr (pm_dret (pc := 153) d_Mo_plain_153 rfl) (rfl)
set_option maxHeartbeats 1000000 in
set_option maxRecDepth 20000 in
theorem m_plain3i {l : Launch} {G : pm_G} {fi : Bool} {h : pm_H} {S : gS} {T : mS} {x y : UInt64} (hl : l.stackTraces = false) (H : mH T h) (hz : ¬ FP.d2i y = 0) : pm_En l G fi fi 0 0 M_Mo_plain [.ref (95), .int (3), .double (x), .double (y), .int (1)] h (.inl (some (.double (FP.i2d (g_dv (FP.d2i x) (FP.d2i y))))), h) := by
  refine pm_Cn.eq (pm_Cn.of hl (by decide) (Nat.le_of_ble_eq_true rfl) ?_)
  refine px (fun _ => pm_iload (pc := 0) d_Mo_plain_0 rfl) ?_
  refine pxb (fun _ => pm_if_eq (pc := 2) (tgt := 86) d_Mo_plain_2 (by decide)) (fun c_1 => absurd c_1 (by decide)) (fun c_1 => ?_)
  refine px (fun _ => pm_dload_n (pc := 5) d_Mo_plain_5 rfl) ?_
  refine px (fun _ => pm_d2i (pc := 6) d_Mo_plain_6) ?_
  refine px (fun _ => pm_istore (lv' := [(7, .int ((FP.d2i (x)))), (0, .ref (95)), (1, .int (3)), (2, .double (x)), (4, .double (y)), (6, .int (1))]) (pc := 7) d_Mo_plain_7 (by decide) rfl) ?_
  refine px (fun _ => pm_dload (pc := 9) d_Mo_plain_9 rfl) ?_
  refine px (fun _ => pm_d2i (pc := 11) d_Mo_plain_11) ?_
  refine px (fun _ => pm_istore (lv' := [(8, .int ((FP.d2i (y)))), (7, .int ((FP.d2i (x)))), (0, .ref (95)), (1, .int (3)), (2, .double (x)), (4, .double (y)), (6, .int (1))]) (pc := 12) d_Mo_plain_12 (by decide) rfl) ?_
  refine px (fun _ => pm_iload_n (pc := 14) d_Mo_plain_14 rfl) ?_
  refine px (fun _ => pm_iconst (v := 3) (pc := 15) d_Mo_plain_15 rfl) ?_
  refine pxn (fun _ => pm_icmp_ne (pc := 16) (tgt := 29) d_Mo_plain_16 (by decide)) (fun c_2 => absurd (by decide) c_2) (fun c_2 => ?_)
  refine px (fun _ => pm_iload (pc := 19) d_Mo_plain_19 rfl) ?_
  refine pxn (fun _ => pm_if_ne (pc := 21) (tgt := 29) d_Mo_plain_21 (by decide)) (fun c_3 => ?_) (fun c_3 => absurd c_3 (hz))
  refine px (fun _ => pm_iload_n (pc := 29) d_Mo_plain_29 rfl) ?_
  refine pxn (fun _ => pm_if_ne (pc := 30) (tgt := 42) d_Mo_plain_30 (by decide)) (fun c_4 => ?_) (fun c_4 => absurd c_4 (by decide))
  refine px (fun _ => pm_iload_n (pc := 42) d_Mo_plain_42 rfl) ?_
  refine px (fun _ => pm_iconst (v := 1) (pc := 43) d_Mo_plain_43 rfl) ?_
  refine pxn (fun _ => pm_icmp_ne (pc := 44) (tgt := 56) d_Mo_plain_44 (by decide)) (fun c_5 => ?_) (fun c_5 => absurd c_5 (by decide))
  refine px (fun _ => pm_iload_n (pc := 56) d_Mo_plain_56 rfl) ?_
  refine px (fun _ => pm_iconst (v := 2) (pc := 57) d_Mo_plain_57 rfl) ?_
  refine pxn (fun _ => pm_icmp_ne (pc := 58) (tgt := 70) d_Mo_plain_58 (by decide)) (fun c_6 => ?_) (fun c_6 => absurd c_6 (by decide))
  refine px (fun _ => pm_iload (pc := 70) d_Mo_plain_70 rfl) ?_
  refine pxn (fun _ => pm_if_ne (pc := 72) (tgt := 79) d_Mo_plain_72 (by decide)) (fun c_7 => ?_) (fun c_7 => absurd c_7 (hz))
  refine px (fun _ => pm_iload (pc := 79) d_Mo_plain_79 rfl) ?_
  refine px (fun _ => pm_iload (pc := 81) d_Mo_plain_81 rfl) ?_
  refine px (fun _ => pm_idiv (pc := 83) d_Mo_plain_83 (hz)) ?_
  refine px (fun _ => pm_i2d (pc := 84) d_Mo_plain_84) ?_
  exact pxr (pm_dret (pc := 85) d_Mo_plain_85 rfl) (by unfold g_dv; rw [if_neg hz])
set_option maxHeartbeats 1000000 in
set_option maxRecDepth 20000 in
theorem m_plain3f {l : Launch} {G : pm_G} {fi : Bool} {h : pm_H} {S : gS} {T : mS} {x y : UInt64} (hl : l.stackTraces = false) (H : mH T h) (hz : ¬ fEq y FP.dconst0) (hn : vf_n64 (FP.ddiv x y)) : pm_En l G fi fi 0 0 M_Mo_plain [.ref (95), .int (3), .double (x), .double (y), .int (0)] h (.inl (some (.double (FP.ddiv x y))), h) := by
  refine pm_Cn.eq (pm_Cn.of hl (by decide) (Nat.le_of_ble_eq_true rfl) ?_)
  refine px (fun _ => pm_iload (pc := 0) d_Mo_plain_0 rfl) ?_
  refine pxb (fun _ => pm_if_eq (pc := 2) (tgt := 86) d_Mo_plain_2 (by decide)) (fun c_1 => ?_) (fun c_1 => absurd (by decide) c_1)
  refine px (fun _ => pm_iload_n (pc := 86) d_Mo_plain_86 rfl) ?_
  refine px (fun _ => pm_iconst (v := 3) (pc := 87) d_Mo_plain_87 rfl) ?_
  refine pxn (fun _ => pm_icmp_ne (pc := 88) (tgt := 103) d_Mo_plain_88 (by decide)) (fun c_2 => absurd (by decide) c_2) (fun c_2 => ?_)
  refine px (fun _ => pm_dload (pc := 91) d_Mo_plain_91 rfl) ?_
  refine px (fun _ => pm_dconst0 (pc := 93) d_Mo_plain_93) ?_
  refine px (fun _ => pm_dcmp (pc := 94) d_Mo_plain_94) ?_
  refine pxn (fun _ => pm_if_ne (pc := 95) (tgt := 103) d_Mo_plain_95 (by decide)) (fun c_3 => ?_) (fun c_3 => absurd c_3 (hz))
  refine px (fun _ => pm_iload_n (pc := 103) d_Mo_plain_103 rfl) ?_
  refine pxn (fun _ => pm_if_ne (pc := 104) (tgt := 114) d_Mo_plain_104 (by decide)) (fun c_4 => ?_) (fun c_4 => absurd c_4 (by decide))
  refine px (fun _ => pm_iload_n (pc := 114) d_Mo_plain_114 rfl) ?_
  refine px (fun _ => pm_iconst (v := 1) (pc := 115) d_Mo_plain_115 rfl) ?_
  refine pxn (fun _ => pm_icmp_ne (pc := 116) (tgt := 126) d_Mo_plain_116 (by decide)) (fun c_5 => ?_) (fun c_5 => absurd c_5 (by decide))
  refine px (fun _ => pm_iload_n (pc := 126) d_Mo_plain_126 rfl) ?_
  refine px (fun _ => pm_iconst (v := 2) (pc := 127) d_Mo_plain_127 rfl) ?_
  refine pxn (fun _ => pm_icmp_ne (pc := 128) (tgt := 138) d_Mo_plain_128 (by decide)) (fun c_6 => ?_) (fun c_6 => absurd c_6 (by decide))
  refine px (fun _ => pm_dload (pc := 138) d_Mo_plain_138 rfl) ?_
  refine px (fun _ => pm_dconst0 (pc := 140) d_Mo_plain_140) ?_
  refine px (fun _ => pm_dcmp (pc := 141) d_Mo_plain_141) ?_
  refine pxn (fun _ => pm_if_ne (pc := 142) (tgt := 149) d_Mo_plain_142 (by decide)) (fun c_7 => ?_) (fun c_7 => absurd c_7 (hz))
  refine px (fun _ => pm_dload_n (pc := 149) d_Mo_plain_149 rfl) ?_
  refine px (fun _ => pm_dload (pc := 150) d_Mo_plain_150 rfl) ?_
  refine px (fun _ => pm_ddiv (pc := 152) d_Mo_plain_152 (hn)) ?_
  exact pxr (pm_dret (pc := 153) d_Mo_plain_153 rfl) (rfl)
set_option maxHeartbeats 1000000 in
set_option maxRecDepth 20000 in
theorem m_plain3iz {l : Launch} {G : pm_G} {fi : Bool} {h : pm_H} {T : mS} {x y : UInt64} (hl : l.stackTraces = false) (H : mH T h) (hz : FP.d2i y = 0) (hn : mG T 4 ≤ 4) : pm_Cn l G fi fi 0 0 M_Mo_plain [.ref (95), .int (3), .double (x), .double (y), .int (1)] h (m_P (some (.double FP.dconst0)) (m_tb T 3) h) := by
  refine pm_Cn.of hl (by decide) (Nat.le_of_ble_eq_true rfl) ?_
  refine px (fun _ => pm_iload (pc := 0) d_Mo_plain_0 rfl) ?_
  refine pxb (fun _ => pm_if_eq (pc := 2) (tgt := 86) d_Mo_plain_2 (by decide)) (fun c_1 => absurd c_1 (by decide)) (fun c_1 => ?_)
  refine px (fun _ => pm_dload_n (pc := 5) d_Mo_plain_5 rfl) ?_
  refine px (fun _ => pm_d2i (pc := 6) d_Mo_plain_6) ?_
  refine px (fun _ => pm_istore (lv' := [(7, .int ((FP.d2i (x)))), (0, .ref (95)), (1, .int (3)), (2, .double (x)), (4, .double (y)), (6, .int (1))]) (pc := 7) d_Mo_plain_7 (by decide) rfl) ?_
  refine px (fun _ => pm_dload (pc := 9) d_Mo_plain_9 rfl) ?_
  refine px (fun _ => pm_d2i (pc := 11) d_Mo_plain_11) ?_
  refine px (fun _ => pm_istore (lv' := [(8, .int ((FP.d2i (y)))), (7, .int ((FP.d2i (x)))), (0, .ref (95)), (1, .int (3)), (2, .double (x)), (4, .double (y)), (6, .int (1))]) (pc := 12) d_Mo_plain_12 (by decide) rfl) ?_
  refine px (fun _ => pm_iload_n (pc := 14) d_Mo_plain_14 rfl) ?_
  refine px (fun _ => pm_iconst (v := 3) (pc := 15) d_Mo_plain_15 rfl) ?_
  refine pxn (fun _ => pm_icmp_ne (pc := 16) (tgt := 29) d_Mo_plain_16 (by decide)) (fun c_2 => absurd (by decide) c_2) (fun c_2 => ?_)
  refine px (fun _ => pm_iload (pc := 19) d_Mo_plain_19 rfl) ?_
  refine pxn (fun _ => pm_if_ne (pc := 21) (tgt := 29) d_Mo_plain_21 (by decide)) (fun c_3 => absurd (hz) c_3) (fun c_3 => ?_)
  refine px (fun _ => pm_aload_n (pc := 24) d_Mo_plain_24 rfl) ?_
  refine px (fun _ => pm_iconst (v := 3) (pc := 25) d_Mo_plain_25 rfl) ?_
  obtain ⟨⟨o4, h4⟩, ⟨e4, H4, F4⟩, en4⟩ := m_trouble3 (l := l) (G := G) (fi := fi) (T := T) hl H hn
  dsimp only at e4 H4 F4
  subst e4
  refine px (fun _ => k_Mo_plain_26 (kc1 := 0) (ks1 := 0) (kc := 0) (ks := 0) (av := [.int (3)]) (st := []) H.1 (en4) rfl rfl (Nat.le_of_ble_eq_true rfl)) ?_
  refine px (fun _ => pm_iload_n (pc := 29) d_Mo_plain_29 rfl) ?_
  refine pxn (fun _ => pm_if_ne (pc := 30) (tgt := 42) d_Mo_plain_30 (by decide)) (fun c_5 => ?_) (fun c_5 => absurd c_5 (by decide))
  refine px (fun _ => pm_iload_n (pc := 42) d_Mo_plain_42 rfl) ?_
  refine px (fun _ => pm_iconst (v := 1) (pc := 43) d_Mo_plain_43 rfl) ?_
  refine pxn (fun _ => pm_icmp_ne (pc := 44) (tgt := 56) d_Mo_plain_44 (by decide)) (fun c_6 => ?_) (fun c_6 => absurd c_6 (by decide))
  refine px (fun _ => pm_iload_n (pc := 56) d_Mo_plain_56 rfl) ?_
  refine px (fun _ => pm_iconst (v := 2) (pc := 57) d_Mo_plain_57 rfl) ?_
  refine pxn (fun _ => pm_icmp_ne (pc := 58) (tgt := 70) d_Mo_plain_58 (by decide)) (fun c_7 => ?_) (fun c_7 => absurd c_7 (by decide))
  refine px (fun _ => pm_iload (pc := 70) d_Mo_plain_70 rfl) ?_
  refine pxn (fun _ => pm_if_ne (pc := 72) (tgt := 79) d_Mo_plain_72 (by decide)) (fun c_8 => absurd (hz) c_8) (fun c_8 => ?_)
  refine px (fun _ => pm_dconst0 (pc := 75) d_Mo_plain_75) ?_
  refine px (fun _ => pm_goto (tgt := 85) (pc := 76) d_Mo_plain_76 (by decide)) ?_
  exact pxr (pm_dret (pc := 85) d_Mo_plain_85 rfl) ⟨rfl, H4, F4⟩
set_option maxHeartbeats 1000000 in
set_option maxRecDepth 20000 in
theorem m_plain3fz {l : Launch} {G : pm_G} {fi : Bool} {h : pm_H} {T : mS} {x y : UInt64} (hl : l.stackTraces = false) (H : mH T h) (hz : fEq y FP.dconst0) (hn : mG T 4 ≤ 4) : pm_Cn l G fi fi 0 0 M_Mo_plain [.ref (95), .int (3), .double (x), .double (y), .int (0)] h (m_P (some (.double FP.dconst0)) (m_tb T 3) h) := by
  refine pm_Cn.of hl (by decide) (Nat.le_of_ble_eq_true rfl) ?_
  refine px (fun _ => pm_iload (pc := 0) d_Mo_plain_0 rfl) ?_
  refine pxb (fun _ => pm_if_eq (pc := 2) (tgt := 86) d_Mo_plain_2 (by decide)) (fun c_1 => ?_) (fun c_1 => absurd (by decide) c_1)
  refine px (fun _ => pm_iload_n (pc := 86) d_Mo_plain_86 rfl) ?_
  refine px (fun _ => pm_iconst (v := 3) (pc := 87) d_Mo_plain_87 rfl) ?_
  refine pxn (fun _ => pm_icmp_ne (pc := 88) (tgt := 103) d_Mo_plain_88 (by decide)) (fun c_2 => absurd (by decide) c_2) (fun c_2 => ?_)
  refine px (fun _ => pm_dload (pc := 91) d_Mo_plain_91 rfl) ?_
  refine px (fun _ => pm_dconst0 (pc := 93) d_Mo_plain_93) ?_
  refine px (fun _ => pm_dcmp (pc := 94) d_Mo_plain_94) ?_
  refine pxn (fun _ => pm_if_ne (pc := 95) (tgt := 103) d_Mo_plain_95 (by decide)) (fun c_3 => absurd (hz) c_3) (fun c_3 => ?_)
  refine px (fun _ => pm_aload_n (pc := 98) d_Mo_plain_98 rfl) ?_
  refine px (fun _ => pm_iconst (v := 3) (pc := 99) d_Mo_plain_99 rfl) ?_
  obtain ⟨⟨o4, h4⟩, ⟨e4, H4, F4⟩, en4⟩ := m_trouble3 (l := l) (G := G) (fi := fi) (T := T) hl H hn
  dsimp only at e4 H4 F4
  subst e4
  refine px (fun _ => k_Mo_plain_100 (kc1 := 0) (ks1 := 0) (kc := 0) (ks := 0) (av := [.int (3)]) (st := []) H.1 (en4) rfl rfl (Nat.le_of_ble_eq_true rfl)) ?_
  refine px (fun _ => pm_iload_n (pc := 103) d_Mo_plain_103 rfl) ?_
  refine pxn (fun _ => pm_if_ne (pc := 104) (tgt := 114) d_Mo_plain_104 (by decide)) (fun c_5 => ?_) (fun c_5 => absurd c_5 (by decide))
  refine px (fun _ => pm_iload_n (pc := 114) d_Mo_plain_114 rfl) ?_
  refine px (fun _ => pm_iconst (v := 1) (pc := 115) d_Mo_plain_115 rfl) ?_
  refine pxn (fun _ => pm_icmp_ne (pc := 116) (tgt := 126) d_Mo_plain_116 (by decide)) (fun c_6 => ?_) (fun c_6 => absurd c_6 (by decide))
  refine px (fun _ => pm_iload_n (pc := 126) d_Mo_plain_126 rfl) ?_
  refine px (fun _ => pm_iconst (v := 2) (pc := 127) d_Mo_plain_127 rfl) ?_
  refine pxn (fun _ => pm_icmp_ne (pc := 128) (tgt := 138) d_Mo_plain_128 (by decide)) (fun c_7 => ?_) (fun c_7 => absurd c_7 (by decide))
  refine px (fun _ => pm_dload (pc := 138) d_Mo_plain_138 rfl) ?_
  refine px (fun _ => pm_dconst0 (pc := 140) d_Mo_plain_140) ?_
  refine px (fun _ => pm_dcmp (pc := 141) d_Mo_plain_141) ?_
  refine pxn (fun _ => pm_if_ne (pc := 142) (tgt := 149) d_Mo_plain_142 (by decide)) (fun c_8 => absurd (hz) c_8) (fun c_8 => ?_)
  refine px (fun _ => pm_dconst0 (pc := 145) d_Mo_plain_145) ?_
  refine px (fun _ => pm_goto (tgt := 153) (pc := 146) d_Mo_plain_146 (by decide)) ?_
  exact pxr (pm_dret (pc := 153) d_Mo_plain_153 rfl) ⟨rfl, H4, F4⟩
set_option maxHeartbeats 1000000 in
set_option maxRecDepth 20000 in
theorem m_cast {l : Launch} {G : pm_G} {fi : Bool} {h : pm_H} {S : gS} {T : mS} {n : Nat} {x : UInt64} (hl : l.stackTraces = false) (H : mH T h) (hn : n < 14) : pm_En l G fi fi 0 0 M_Mo_cast [.ref (95), .int (nI n), .double (x)] h (.inl (some (.double (if mQ T 8 n = 1 then FP.i2d (FP.d2i x) else x))), h) := by
  refine pm_Cn.eq (pm_Cn.of hl (by decide) (Nat.le_of_ble_eq_true rfl) ?_)
  refine px (fun _ => pm_aload_n (pc := 0) d_Mo_cast_0 rfl) ?_
  refine px (fun _ => pm_getf fl_Mo_35 (pc := 1) d_Mo_cast_1 H.1 rfl) ?_
  refine px (fun _ => pm_iload_n (pc := 4) d_Mo_cast_4 rfl) ?_
  refine px (fun _ => pm_iald (j := n) (pc := 5) d_Mo_cast_5 H.2.2.2.2.2.2.2.2.2.1 (rfl) (hn) (by decide)) ?_
  refine px (fun _ => pm_iconst (v := 1) (pc := 6) d_Mo_cast_6 rfl) ?_
  refine pxn (fun _ => pm_icmp_ne (pc := 7) (tgt := 16) d_Mo_cast_7 (by decide)) (fun c_1 => ?_) (fun c_1 => ?_)
  · refine px (fun _ => pm_dload_n (pc := 16) d_Mo_cast_16 rfl) ?_
    exact pxr (pm_dret (pc := 17) d_Mo_cast_17 rfl) (by rw [if_neg (by assumption)])
  · refine px (fun _ => pm_dload_n (pc := 10) d_Mo_cast_10 rfl) ?_
    refine px (fun _ => pm_d2i (pc := 11) d_Mo_cast_11) ?_
    refine px (fun _ => pm_i2d (pc := 12) d_Mo_cast_12) ?_
    refine px (fun _ => pm_goto (tgt := 17) (pc := 13) d_Mo_cast_13 (by decide)) ?_
    exact pxr (pm_dret (pc := 17) d_Mo_cast_17 rfl) (by rw [if_pos (by assumption)])
set_option maxHeartbeats 1000000 in
set_option maxRecDepth 20000 in
theorem m_bounded {l : Launch} {G : pm_G} {fi : Bool} {h : pm_H} {S : gS} {T : mS} {n : Nat} {x : UInt64} (hl : l.stackTraces = false) (H : mH T h) (hn : n < 14) : pm_En l G fi fi 0 0 M_Mo_bounded [.ref (95), .int (nI n), .double (x)] h (.inl (some (.double (if fLt x (FP.i2d (mQ T 8 n)) then FP.i2d (mQ T 8 n) else if fGt x (FP.i2d (mQ T 9 n)) then FP.i2d (mQ T 9 n) else x))), h) := by
  refine pm_Cn.eq (pm_Cn.of hl (by decide) (Nat.le_of_ble_eq_true rfl) ?_)
  refine px (fun _ => pm_dload_n (pc := 0) d_Mo_bounded_0 rfl) ?_
  refine px (fun _ => pm_aload_n (pc := 1) d_Mo_bounded_1 rfl) ?_
  refine px (fun _ => pm_getf fl_Mo_35 (pc := 2) d_Mo_bounded_2 H.1 rfl) ?_
  refine px (fun _ => pm_iload_n (pc := 5) d_Mo_bounded_5 rfl) ?_
  refine px (fun _ => pm_iald (j := n) (pc := 6) d_Mo_bounded_6 H.2.2.2.2.2.2.2.2.2.1 (rfl) (hn) (by decide)) ?_
  refine px (fun _ => pm_i2d (pc := 7) d_Mo_bounded_7) ?_
  refine px (fun _ => pm_dcmp (pc := 8) d_Mo_bounded_8) ?_
  refine pxb (fun _ => pm_if_ge (pc := 9) (tgt := 22) d_Mo_bounded_9 (by decide)) (fun c_1 => ?_) (fun c_1 => ?_)
  · refine px (fun _ => pm_dload_n (pc := 22) d_Mo_bounded_22 rfl) ?_
    refine px (fun _ => pm_aload_n (pc := 23) d_Mo_bounded_23 rfl) ?_
    refine px (fun _ => pm_getf fl_Mo_38 (pc := 24) d_Mo_bounded_24 H.1 rfl) ?_
    refine px (fun _ => pm_iload_n (pc := 27) d_Mo_bounded_27 rfl) ?_
    refine px (fun _ => pm_iald (j := n) (pc := 28) d_Mo_bounded_28 H.2.2.2.2.2.2.2.2.2.2.1 (rfl) (hn) (by decide)) ?_
    refine px (fun _ => pm_i2d (pc := 29) d_Mo_bounded_29) ?_
    refine px (fun _ => pm_dcmp (pc := 30) d_Mo_bounded_30) ?_
    refine pxb (fun _ => pm_if_le (pc := 31) (tgt := 44) d_Mo_bounded_31 (by decide)) (fun c_2 => ?_) (fun c_2 => ?_)
    · refine px (fun _ => pm_dload_n (pc := 44) d_Mo_bounded_44 rfl) ?_
      exact pxr (pm_dret (pc := 45) d_Mo_bounded_45 rfl) (by rw [if_neg (fun q => q (by assumption)), if_neg (fun q => q (by assumption))])
    · refine px (fun _ => pm_aload_n (pc := 34) d_Mo_bounded_34 rfl) ?_
      refine px (fun _ => pm_getf fl_Mo_38 (pc := 35) d_Mo_bounded_35 H.1 rfl) ?_
      refine px (fun _ => pm_iload_n (pc := 38) d_Mo_bounded_38 rfl) ?_
      refine px (fun _ => pm_iald (j := n) (pc := 39) d_Mo_bounded_39 H.2.2.2.2.2.2.2.2.2.2.1 (rfl) (hn) (by decide)) ?_
      refine px (fun _ => pm_i2d (pc := 40) d_Mo_bounded_40) ?_
      refine px (fun _ => pm_goto (tgt := 45) (pc := 41) d_Mo_bounded_41 (by decide)) ?_
      exact pxr (pm_dret (pc := 45) d_Mo_bounded_45 rfl) (by rw [if_neg (fun q => q (by assumption)), if_pos (by assumption)])
  · refine px (fun _ => pm_aload_n (pc := 12) d_Mo_bounded_12 rfl) ?_
    refine px (fun _ => pm_getf fl_Mo_35 (pc := 13) d_Mo_bounded_13 H.1 rfl) ?_
    refine px (fun _ => pm_iload_n (pc := 16) d_Mo_bounded_16 rfl) ?_
    refine px (fun _ => pm_iald (j := n) (pc := 17) d_Mo_bounded_17 H.2.2.2.2.2.2.2.2.2.1 (rfl) (hn) (by decide)) ?_
    refine px (fun _ => pm_i2d (pc := 18) d_Mo_bounded_18) ?_
    refine px (fun _ => pm_goto (tgt := 45) (pc := 19) d_Mo_bounded_19 (by decide)) ?_
    exact pxr (pm_dret (pc := 45) d_Mo_bounded_45 rfl) (by rw [if_pos (by assumption)])
set_option maxHeartbeats 1000000 in
set_option maxRecDepth 20000 in
theorem m_join0 {l : Launch} {G : pm_G} {fi : Bool} {h : pm_H} {S : gS} {T : mS} {n a b i j : Nat} (hl : l.stackTraces = false) (H : mH T h) (hn : n < 14) (ha : a < 20) (ta : mTb S T a) (ca : mCl S T a) (ra : g_rng S a) (hb : b < 20) (tb : mTb S T b) (cb : mCl S T b) (rb : g_rng S b) (hp : mQ T 8 n = 0) (hi : i < gT S a 1 + gT S b 1) (hja : j < gT S a 2) (hjb : j < gT S b 2) : pm_En l G fi fi 0 0 M_Mo_joined [.ref (95), .int (nI n), .int (nI a), .int (nI b), .int (nI i), .int (nI j)] h (.inl (some (.double (if i < gT S a 1 then gC S a (i * 4 + j) else gC S b ((i - gT S a 1) * 4 + j)))), h) := by
  refine pm_Cn.eq (pm_Cn.of hl (by decide) (Nat.le_of_ble_eq_true rfl) ?_)
  obtain ⟨t1, t2, t3⟩ := id ta
  obtain ⟨r1, r2, r3, r4, r5⟩ := id ra
  obtain ⟨u1, u2, u3⟩ := id tb
  obtain ⟨s1, s2, s3, s4, s5⟩ := id rb
  refine px (fun _ => pm_aload_n (pc := 0) d_Mo_joined_0 rfl) ?_
  refine px (fun _ => pm_getf fl_Mo_35 (pc := 1) d_Mo_joined_1 H.1 rfl) ?_
  refine px (fun _ => pm_iload_n (pc := 4) d_Mo_joined_4 rfl) ?_
  refine px (fun _ => pm_iald (j := n) (pc := 5) d_Mo_joined_5 H.2.2.2.2.2.2.2.2.2.1 (rfl) (hn) (by decide)) ?_
  refine pxn (fun _ => pm_if_ne (pc := 6) (tgt := 65) d_Mo_joined_6 (by decide)) (fun c_1 => absurd (hp) c_1) (fun c_1 => ?_)
  refine px (fun _ => pm_iload (pc := 9) d_Mo_joined_9 rfl) ?_
  refine px (fun _ => pm_aload_n (pc := 11) d_Mo_joined_11 rfl) ?_
  refine px (fun _ => pm_getf fl_Mo_16 (pc := 12) d_Mo_joined_12 H.1 rfl) ?_
  refine px (fun _ => pm_iload_n (pc := 15) d_Mo_joined_15 rfl) ?_
  refine px (fun _ => pm_iald (j := a) (pc := 16) d_Mo_joined_16 H.2.2.2.1 (rfl) (ha) (by decide)) ?_
  refine pxb (fun _ => pm_icmp_ge (pc := 17) (tgt := 40) d_Mo_joined_17 (by decide)) (fun c_2 => ?_) (fun c_2 => ?_)
  · have n_c_2 : (mA T 2 a) ≤ i := (nI_leI (a := (mA T 2 a)) (b := i) (by omega) (by omega)).mp c_2
    refine px (fun _ => pm_aload_n (pc := 40) d_Mo_joined_40 rfl) ?_
    refine px (fun _ => pm_getf fl_Mo_25 (pc := 41) d_Mo_joined_41 H.1 rfl) ?_
    refine px (fun _ => pm_iload_n (pc := 44) d_Mo_joined_44 rfl) ?_
    refine px (fun _ => pm_bipush (v := 16) (pc := 45) d_Mo_joined_45 rfl) ?_
    refine px (fun _ => pm_imulN (a := b) (b := 16) (pc := 47) d_Mo_joined_47) ?_
    refine px (fun _ => pm_iload (pc := 48) d_Mo_joined_48 rfl) ?_
    refine px (fun _ => pm_aload_n (pc := 50) d_Mo_joined_50 rfl) ?_
    refine px (fun _ => pm_getf fl_Mo_16 (pc := 51) d_Mo_joined_51 H.1 rfl) ?_
    refine px (fun _ => pm_iload_n (pc := 54) d_Mo_joined_54 rfl) ?_
    refine px (fun _ => pm_iald (j := a) (pc := 55) d_Mo_joined_55 H.2.2.2.1 (rfl) (ha) (by decide)) ?_
    refine px (fun _ => pm_isubN (a := i) (b := (mA T 2 a)) (pc := 56) d_Mo_joined_56 (by omega)) ?_
    refine px (fun _ => pm_iconst (v := 4) (pc := 57) d_Mo_joined_57 rfl) ?_
    refine px (fun _ => pm_imulN (a := (i - (mA T 2 a))) (b := 4) (pc := 58) d_Mo_joined_58) ?_
    refine px (fun _ => pm_iaddN (a := (b * 16)) (b := ((i - (mA T 2 a)) * 4)) (pc := 59) d_Mo_joined_59) ?_
    refine px (fun _ => pm_iload (pc := 60) d_Mo_joined_60 rfl) ?_
    refine px (fun _ => pm_iaddN (a := ((b * 16) + ((i - (mA T 2 a)) * 4))) (b := j) (pc := 62) d_Mo_joined_62) ?_
    refine px (fun _ => pm_dald (j := b * 16 + (i - gT S a 1) * 4 + j) (pc := 63) d_Mo_joined_63 H.2.2.2.2.2.2.1 (by rw [t2]) (by omega) (by decide)) ?_
    exact pxr (pm_dret (pc := 64) d_Mo_joined_64 rfl) (by rw [if_neg (by omega), ← cb (i - gT S a 1) j (by omega) (by omega)])
  · have n_c_2 : ¬ ((mA T 2 a) ≤ i) := fun zq => c_2 ((nI_leI (a := (mA T 2 a)) (b := i) (by omega) (by omega)).mpr zq)
    refine px (fun _ => pm_aload_n (pc := 20) d_Mo_joined_20 rfl) ?_
    refine px (fun _ => pm_getf fl_Mo_25 (pc := 21) d_Mo_joined_21 H.1 rfl) ?_
    refine px (fun _ => pm_iload_n (pc := 24) d_Mo_joined_24 rfl) ?_
    refine px (fun _ => pm_bipush (v := 16) (pc := 25) d_Mo_joined_25 rfl) ?_
    refine px (fun _ => pm_imulN (a := a) (b := 16) (pc := 27) d_Mo_joined_27) ?_
    refine px (fun _ => pm_iload (pc := 28) d_Mo_joined_28 rfl) ?_
    refine px (fun _ => pm_iconst (v := 4) (pc := 30) d_Mo_joined_30 rfl) ?_
    refine px (fun _ => pm_imulN (a := i) (b := 4) (pc := 31) d_Mo_joined_31) ?_
    refine px (fun _ => pm_iaddN (a := (a * 16)) (b := (i * 4)) (pc := 32) d_Mo_joined_32) ?_
    refine px (fun _ => pm_iload (pc := 33) d_Mo_joined_33 rfl) ?_
    refine px (fun _ => pm_iaddN (a := ((a * 16) + (i * 4))) (b := j) (pc := 35) d_Mo_joined_35) ?_
    refine px (fun _ => pm_dald (j := ((a * 16) + (i * 4)) + j) (pc := 36) d_Mo_joined_36 H.2.2.2.2.2.2.1 (rfl) (by omega) (by decide)) ?_
    refine px (fun _ => pm_goto (tgt := 64) (pc := 37) d_Mo_joined_37 (by decide)) ?_
    exact pxr (pm_dret (pc := 64) d_Mo_joined_64 rfl) (by rw [if_pos (by omega), ← ca i j (by omega) (by omega)])
set_option maxHeartbeats 1000000 in
set_option maxRecDepth 20000 in
theorem m_join1 {l : Launch} {G : pm_G} {fi : Bool} {h : pm_H} {S : gS} {T : mS} {n a b i j : Nat} (hl : l.stackTraces = false) (H : mH T h) (hn : n < 14) (ha : a < 20) (ta : mTb S T a) (ca : mCl S T a) (ra : g_rng S a) (hb : b < 20) (tb : mTb S T b) (cb : mCl S T b) (rb : g_rng S b) (hp : mQ T 8 n = 1) (hj : j < gT S a 2 + gT S b 2) (hia : i < gT S a 1) (hib : i < gT S b 1) : pm_En l G fi fi 0 0 M_Mo_joined [.ref (95), .int (nI n), .int (nI a), .int (nI b), .int (nI i), .int (nI j)] h (.inl (some (.double (if j < gT S a 2 then gC S a (i * 4 + j) else gC S b (i * 4 + (j - gT S a 2))))), h) := by
  refine pm_Cn.eq (pm_Cn.of hl (by decide) (Nat.le_of_ble_eq_true rfl) ?_)
  obtain ⟨t1, t2, t3⟩ := id ta
  obtain ⟨r1, r2, r3, r4, r5⟩ := id ra
  obtain ⟨u1, u2, u3⟩ := id tb
  obtain ⟨s1, s2, s3, s4, s5⟩ := id rb
  refine px (fun _ => pm_aload_n (pc := 0) d_Mo_joined_0 rfl) ?_
  refine px (fun _ => pm_getf fl_Mo_35 (pc := 1) d_Mo_joined_1 H.1 rfl) ?_
  refine px (fun _ => pm_iload_n (pc := 4) d_Mo_joined_4 rfl) ?_
  refine px (fun _ => pm_iald (j := n) (pc := 5) d_Mo_joined_5 H.2.2.2.2.2.2.2.2.2.1 (rfl) (hn) (by decide)) ?_
  refine pxn (fun _ => pm_if_ne (pc := 6) (tgt := 65) d_Mo_joined_6 (by decide)) (fun c_1 => ?_) (fun c_1 => absurd c_1 (fun q => absurd (hp.symm.trans q) (by decide)))
  refine px (fun _ => pm_iload (pc := 65) d_Mo_joined_65 rfl) ?_
  refine px (fun _ => pm_aload_n (pc := 67) d_Mo_joined_67 rfl) ?_
  refine px (fun _ => pm_getf fl_Mo_19 (pc := 68) d_Mo_joined_68 H.1 rfl) ?_
  refine px (fun _ => pm_iload_n (pc := 71) d_Mo_joined_71 rfl) ?_
  refine px (fun _ => pm_iald (j := a) (pc := 72) d_Mo_joined_72 H.2.2.2.2.1 (rfl) (ha) (by decide)) ?_
  refine pxb (fun _ => pm_icmp_ge (pc := 73) (tgt := 96) d_Mo_joined_73 (by decide)) (fun c_2 => ?_) (fun c_2 => ?_)
  · have n_c_2 : (mA T 3 a) ≤ j := (nI_leI (a := (mA T 3 a)) (b := j) (by omega) (by omega)).mp c_2
    refine px (fun _ => pm_aload_n (pc := 96) d_Mo_joined_96 rfl) ?_
    refine px (fun _ => pm_getf fl_Mo_25 (pc := 97) d_Mo_joined_97 H.1 rfl) ?_
    refine px (fun _ => pm_iload_n (pc := 100) d_Mo_joined_100 rfl) ?_
    refine px (fun _ => pm_bipush (v := 16) (pc := 101) d_Mo_joined_101 rfl) ?_
    refine px (fun _ => pm_imulN (a := b) (b := 16) (pc := 103) d_Mo_joined_103) ?_
    refine px (fun _ => pm_iload (pc := 104) d_Mo_joined_104 rfl) ?_
    refine px (fun _ => pm_iconst (v := 4) (pc := 106) d_Mo_joined_106 rfl) ?_
    refine px (fun _ => pm_imulN (a := i) (b := 4) (pc := 107) d_Mo_joined_107) ?_
    refine px (fun _ => pm_iaddN (a := (b * 16)) (b := (i * 4)) (pc := 108) d_Mo_joined_108) ?_
    refine px (fun _ => pm_iload (pc := 109) d_Mo_joined_109 rfl) ?_
    refine px (fun _ => pm_iaddN (a := ((b * 16) + (i * 4))) (b := j) (pc := 111) d_Mo_joined_111) ?_
    refine px (fun _ => pm_aload_n (pc := 112) d_Mo_joined_112 rfl) ?_
    refine px (fun _ => pm_getf fl_Mo_19 (pc := 113) d_Mo_joined_113 H.1 rfl) ?_
    refine px (fun _ => pm_iload_n (pc := 116) d_Mo_joined_116 rfl) ?_
    refine px (fun _ => pm_iald (j := a) (pc := 117) d_Mo_joined_117 H.2.2.2.2.1 (rfl) (ha) (by decide)) ?_
    refine px (fun _ => pm_isubN (a := (((b * 16) + (i * 4)) + j)) (b := (mA T 3 a)) (pc := 118) d_Mo_joined_118 (by omega)) ?_
    refine px (fun _ => pm_dald (j := b * 16 + i * 4 + (j - gT S a 2)) (pc := 119) d_Mo_joined_119 H.2.2.2.2.2.2.1 (by rw [t3, show b * 16 + i * 4 + j - gT S a 2 = b * 16 + i * 4 + (j - gT S a 2) by omega]) (by omega) (by decide)) ?_
    exact pxr (pm_dret (pc := 120) d_Mo_joined_120 rfl) (by rw [if_neg (by omega), ← cb i (j - gT S a 2) (by omega) (by omega)])
  · have n_c_2 : ¬ ((mA T 3 a) ≤ j) := fun zq => c_2 ((nI_leI (a := (mA T 3 a)) (b := j) (by omega) (by omega)).mpr zq)
    refine px (fun _ => pm_aload_n (pc := 76) d_Mo_joined_76 rfl) ?_
    refine px (fun _ => pm_getf fl_Mo_25 (pc := 77) d_Mo_joined_77 H.1 rfl) ?_
    refine px (fun _ => pm_iload_n (pc := 80) d_Mo_joined_80 rfl) ?_
    refine px (fun _ => pm_bipush (v := 16) (pc := 81) d_Mo_joined_81 rfl) ?_
    refine px (fun _ => pm_imulN (a := a) (b := 16) (pc := 83) d_Mo_joined_83) ?_
    refine px (fun _ => pm_iload (pc := 84) d_Mo_joined_84 rfl) ?_
    refine px (fun _ => pm_iconst (v := 4) (pc := 86) d_Mo_joined_86 rfl) ?_
    refine px (fun _ => pm_imulN (a := i) (b := 4) (pc := 87) d_Mo_joined_87) ?_
    refine px (fun _ => pm_iaddN (a := (a * 16)) (b := (i * 4)) (pc := 88) d_Mo_joined_88) ?_
    refine px (fun _ => pm_iload (pc := 89) d_Mo_joined_89 rfl) ?_
    refine px (fun _ => pm_iaddN (a := ((a * 16) + (i * 4))) (b := j) (pc := 91) d_Mo_joined_91) ?_
    refine px (fun _ => pm_dald (j := ((a * 16) + (i * 4)) + j) (pc := 92) d_Mo_joined_92 H.2.2.2.2.2.2.1 (rfl) (by omega) (by decide)) ?_
    refine px (fun _ => pm_goto (tgt := 120) (pc := 93) d_Mo_joined_93 (by decide)) ?_
    exact pxr (pm_dret (pc := 120) d_Mo_joined_120 rfl) (by rw [if_pos (by omega), ← ca i j (by omega) (by omega)])
set_option maxHeartbeats 1000000 in
set_option maxRecDepth 20000 in
theorem m_pick {l : Launch} {G : pm_G} {fi : Bool} {h : pm_H} {S : gS} {T : mS} {a b i j : Nat} (hl : l.stackTraces = false) (H : mH T h) (ha : a < 20) (ta : mTb S T a) (ca : mCl S T a) (ra : g_rng S a) (hb : b < 20) (cb : mCl S T b) (rb : g_rng S b) (hi : i < gT S b 2) (hj : j < gT S a 2) (hin : g_inR S a b i) : pm_En l G fi fi 0 0 M_Mo_picked [.ref (95), .int (nI a), .int (nI b), .int (nI i), .int (nI j)] h (.inl (some (.double (g_pe S a b i j))), h) := by
  refine pm_Cn.eq (pm_Cn.of hl (by decide) (Nat.le_of_ble_eq_true rfl) ?_)
  obtain ⟨t1, t2, t3⟩ := id ta
  obtain ⟨r1, r2, r3, r4, r5⟩ := id ra
  obtain ⟨s1, s2, s3, s4, s5⟩ := id rb
  have eb : mV T (b * 16 + i) = gC S b (0 * 4 + i) := by { have e9 := cb 0 i (by omega) hi; rw [show b * 16 + 0 * 4 + i = b * 16 + i by omega] at e9; exact e9 }
  refine px (fun _ => pm_aload_n (pc := 0) d_Mo_picked_0 rfl) ?_
  refine px (fun _ => pm_getf fl_Mo_25 (pc := 1) d_Mo_picked_1 H.1 rfl) ?_
  refine px (fun _ => pm_iload_n (pc := 4) d_Mo_picked_4 rfl) ?_
  refine px (fun _ => pm_bipush (v := 16) (pc := 5) d_Mo_picked_5 rfl) ?_
  refine px (fun _ => pm_imulN (a := b) (b := 16) (pc := 7) d_Mo_picked_7) ?_
  refine px (fun _ => pm_iload_n (pc := 8) d_Mo_picked_8 rfl) ?_
  refine px (fun _ => pm_iaddN (a := (b * 16)) (b := i) (pc := 9) d_Mo_picked_9) ?_
  refine px (fun _ => pm_dald (j := b * 16 + i) (pc := 10) d_Mo_picked_10 H.2.2.2.2.2.2.1 (rfl) (by omega) (by decide)) ?_
  rw [eb]
  refine px (fun _ => pm_d2i (pc := 11) d_Mo_picked_11) ?_
  have hg := g_in_lt r2 hin
  generalize hrr : iN (g_rw (gT S a 1) (FP.d2i (gC S b (0 * 4 + i)))) = r at hg
  by_cases hv : (0 : Int32) ≤ FP.d2i (gC S b (0 * 4 + i))
  · have ev : FP.d2i (gC S b (0 * 4 + i)) = nI r := by have e7 := hg.1; unfold g_rw at e7; rw [if_pos hv] at e7; exact e7
    rw [ev]
    refine px (fun _ => pm_istore (lv' := [(5, .int (nI r)), (0, .ref (95)), (1, .int (nI a)), (2, .int (nI b)), (3, .int (nI i)), (4, .int (nI j))]) (pc := 12) d_Mo_picked_12 (by decide) rfl) ?_
    refine px (fun _ => pm_iload (pc := 14) d_Mo_picked_14 rfl) ?_
    refine pxb (fun _ => pm_if_ge (pc := 16) (tgt := 30) d_Mo_picked_16 (by decide)) (fun c_1 => ?_) (fun c_1 => absurd (nI_pos' (by omega)) c_1)
    refine px (fun _ => pm_iload (pc := 30) d_Mo_picked_30 rfl) ?_
    refine pxb (fun _ => pm_if_lt (pc := 32) (tgt := 46) d_Mo_picked_32 (by decide)) (fun c_2 => absurd c_2 (nI_pos (by omega))) (fun c_2 => ?_)
    refine px (fun _ => pm_iload (pc := 35) d_Mo_picked_35 rfl) ?_
    refine px (fun _ => pm_aload_n (pc := 37) d_Mo_picked_37 rfl) ?_
    refine px (fun _ => pm_getf fl_Mo_16 (pc := 38) d_Mo_picked_38 H.1 rfl) ?_
    refine px (fun _ => pm_iload_n (pc := 41) d_Mo_picked_41 rfl) ?_
    refine px (fun _ => pm_iald (j := a) (pc := 42) d_Mo_picked_42 H.2.2.2.1 (rfl) (ha) (by decide)) ?_
    refine pxb (fun _ => pm_icmp_lt (pc := 43) (tgt := 53) d_Mo_picked_43 (by decide)) (fun c_3 => ?_) (fun c_3 => absurd ((nI_ltI (a := r) (b := mA T 2 a) (by omega) (by omega)).mpr (by omega)) c_3)
    refine px (fun _ => pm_aload_n (pc := 53) d_Mo_picked_53 rfl) ?_
    refine px (fun _ => pm_getf fl_Mo_25 (pc := 54) d_Mo_picked_54 H.1 rfl) ?_
    refine px (fun _ => pm_iload_n (pc := 57) d_Mo_picked_57 rfl) ?_
    refine px (fun _ => pm_bipush (v := 16) (pc := 58) d_Mo_picked_58 rfl) ?_
    refine px (fun _ => pm_imulN (a := a) (b := 16) (pc := 60) d_Mo_picked_60) ?_
    refine px (fun _ => pm_iload (pc := 61) d_Mo_picked_61 rfl) ?_
    refine px (fun _ => pm_iconst (v := 4) (pc := 63) d_Mo_picked_63 rfl) ?_
    refine px (fun _ => pm_imulN (a := r) (b := 4) (pc := 64) d_Mo_picked_64) ?_
    refine px (fun _ => pm_iaddN (a := (a * 16)) (b := (r * 4)) (pc := 65) d_Mo_picked_65) ?_
    refine px (fun _ => pm_iload (pc := 66) d_Mo_picked_66 rfl) ?_
    refine px (fun _ => pm_iaddN (a := ((a * 16) + (r * 4))) (b := j) (pc := 68) d_Mo_picked_68) ?_
    refine px (fun _ => pm_dald (j := a * 16 + r * 4 + j) (pc := 69) d_Mo_picked_69 H.2.2.2.2.2.2.1 (rfl) (by omega) (by decide)) ?_
    exact pxr (pm_dret (pc := 70) d_Mo_picked_70 rfl) (by have e9 : g_pe S a b i j = mV T (a * 16 + r * 4 + j) := by { show gC S a (iN (g_rw (gT S a 1) (FP.d2i (gC S b (0 * 4 + i)))) * 4 + j) = _; rw [hrr, ← ca r j (by omega) (by omega)] }; rw [e9])
  · have ev : FP.d2i (gC S b (0 * 4 + i)) + nI (mA T 2 a) = nI r := by have e7 := hg.1; unfold g_rw at e7; rw [if_neg hv] at e7; rw [t2, Int32.add_comm]; exact e7
    refine px (fun _ => pm_istore (lv' := [(5, .int ((FP.d2i (gC S b (0 * 4 + i))))), (0, .ref (95)), (1, .int (nI a)), (2, .int (nI b)), (3, .int (nI i)), (4, .int (nI j))]) (pc := 12) d_Mo_picked_12 (by decide) rfl) ?_
    refine px (fun _ => pm_iload (pc := 14) d_Mo_picked_14 rfl) ?_
    refine pxb (fun _ => pm_if_ge (pc := 16) (tgt := 30) d_Mo_picked_16 (by decide)) (fun c_4 => absurd c_4 (hv)) (fun c_4 => ?_)
    refine px (fun _ => pm_iload (pc := 19) d_Mo_picked_19 rfl) ?_
    refine px (fun _ => pm_aload_n (pc := 21) d_Mo_picked_21 rfl) ?_
    refine px (fun _ => pm_getf fl_Mo_16 (pc := 22) d_Mo_picked_22 H.1 rfl) ?_
    refine px (fun _ => pm_iload_n (pc := 25) d_Mo_picked_25 rfl) ?_
    refine px (fun _ => pm_iald (j := a) (pc := 26) d_Mo_picked_26 H.2.2.2.1 (rfl) (ha) (by decide)) ?_
    refine px (fun _ => pm_iadd (pc := 27) d_Mo_picked_27) ?_
    rw [ev]
    refine px (fun _ => pm_istore (lv' := [(5, .int (nI r)), (0, .ref (95)), (1, .int (nI a)), (2, .int (nI b)), (3, .int (nI i)), (4, .int (nI j))]) (pc := 28) d_Mo_picked_28 (by decide) rfl) ?_
    refine px (fun _ => pm_iload (pc := 30) d_Mo_picked_30 rfl) ?_
    refine pxb (fun _ => pm_if_lt (pc := 32) (tgt := 46) d_Mo_picked_32 (by decide)) (fun c_5 => absurd c_5 (nI_pos (by omega))) (fun c_5 => ?_)
    refine px (fun _ => pm_iload (pc := 35) d_Mo_picked_35 rfl) ?_
    refine px (fun _ => pm_aload_n (pc := 37) d_Mo_picked_37 rfl) ?_
    refine px (fun _ => pm_getf fl_Mo_16 (pc := 38) d_Mo_picked_38 H.1 rfl) ?_
    refine px (fun _ => pm_iload_n (pc := 41) d_Mo_picked_41 rfl) ?_
    refine px (fun _ => pm_iald (j := a) (pc := 42) d_Mo_picked_42 H.2.2.2.1 (rfl) (ha) (by decide)) ?_
    refine pxb (fun _ => pm_icmp_lt (pc := 43) (tgt := 53) d_Mo_picked_43 (by decide)) (fun c_6 => ?_) (fun c_6 => absurd ((nI_ltI (a := r) (b := mA T 2 a) (by omega) (by omega)).mpr (by omega)) c_6)
    refine px (fun _ => pm_aload_n (pc := 53) d_Mo_picked_53 rfl) ?_
    refine px (fun _ => pm_getf fl_Mo_25 (pc := 54) d_Mo_picked_54 H.1 rfl) ?_
    refine px (fun _ => pm_iload_n (pc := 57) d_Mo_picked_57 rfl) ?_
    refine px (fun _ => pm_bipush (v := 16) (pc := 58) d_Mo_picked_58 rfl) ?_
    refine px (fun _ => pm_imulN (a := a) (b := 16) (pc := 60) d_Mo_picked_60) ?_
    refine px (fun _ => pm_iload (pc := 61) d_Mo_picked_61 rfl) ?_
    refine px (fun _ => pm_iconst (v := 4) (pc := 63) d_Mo_picked_63 rfl) ?_
    refine px (fun _ => pm_imulN (a := r) (b := 4) (pc := 64) d_Mo_picked_64) ?_
    refine px (fun _ => pm_iaddN (a := (a * 16)) (b := (r * 4)) (pc := 65) d_Mo_picked_65) ?_
    refine px (fun _ => pm_iload (pc := 66) d_Mo_picked_66 rfl) ?_
    refine px (fun _ => pm_iaddN (a := ((a * 16) + (r * 4))) (b := j) (pc := 68) d_Mo_picked_68) ?_
    refine px (fun _ => pm_dald (j := a * 16 + r * 4 + j) (pc := 69) d_Mo_picked_69 H.2.2.2.2.2.2.1 (rfl) (by omega) (by decide)) ?_
    exact pxr (pm_dret (pc := 70) d_Mo_picked_70 rfl) (by have e9 : g_pe S a b i j = mV T (a * 16 + r * 4 + j) := by { show gC S a (iN (g_rw (gT S a 1) (FP.d2i (gC S b (0 * 4 + i)))) * 4 + j) = _; rw [hrr, ← ca r j (by omega) (by omega)] }; rw [e9])
set_option maxHeartbeats 1000000 in
set_option maxRecDepth 20000 in
theorem m_pickn {l : Launch} {G : pm_G} {fi : Bool} {h : pm_H} {S : gS} {T : mS} {a b i j : Nat} (hl : l.stackTraces = false) (H : mH T h) (ha : a < 20) (ta : mTb S T a) (ca : mCl S T a) (ra : g_rng S a) (hb : b < 20) (cb : mCl S T b) (rb : g_rng S b) (hi : i < gT S b 2) (hj : j < gT S a 2) (hin : ¬ g_inR S a b i) (hn : mG T 4 ≤ 4) : pm_Cn l G fi fi 0 0 M_Mo_picked [.ref (95), .int (nI a), .int (nI b), .int (nI i), .int (nI j)] h (m_P (some (.double FP.dconst0)) (m_tb T 4) h) := by
  refine pm_Cn.of hl (by decide) (Nat.le_of_ble_eq_true rfl) ?_
  obtain ⟨t1, t2, t3⟩ := id ta
  obtain ⟨r1, r2, r3, r4, r5⟩ := id ra
  obtain ⟨s1, s2, s3, s4, s5⟩ := id rb
  have eb : mV T (b * 16 + i) = gC S b (0 * 4 + i) := by { have e9 := cb 0 i (by omega) hi; rw [show b * 16 + 0 * 4 + i = b * 16 + i by omega] at e9; exact e9 }
  refine px (fun _ => pm_aload_n (pc := 0) d_Mo_picked_0 rfl) ?_
  refine px (fun _ => pm_getf fl_Mo_25 (pc := 1) d_Mo_picked_1 H.1 rfl) ?_
  refine px (fun _ => pm_iload_n (pc := 4) d_Mo_picked_4 rfl) ?_
  refine px (fun _ => pm_bipush (v := 16) (pc := 5) d_Mo_picked_5 rfl) ?_
  refine px (fun _ => pm_imulN (a := b) (b := 16) (pc := 7) d_Mo_picked_7) ?_
  refine px (fun _ => pm_iload_n (pc := 8) d_Mo_picked_8 rfl) ?_
  refine px (fun _ => pm_iaddN (a := (b * 16)) (b := i) (pc := 9) d_Mo_picked_9) ?_
  refine px (fun _ => pm_dald (j := b * 16 + i) (pc := 10) d_Mo_picked_10 H.2.2.2.2.2.2.1 (rfl) (by omega) (by decide)) ?_
  rw [eb]
  refine px (fun _ => pm_d2i (pc := 11) d_Mo_picked_11) ?_
  refine px (fun _ => pm_istore (lv' := [(5, .int ((FP.d2i (gC S b (0 * 4 + i))))), (0, .ref (95)), (1, .int (nI a)), (2, .int (nI b)), (3, .int (nI i)), (4, .int (nI j))]) (pc := 12) d_Mo_picked_12 (by decide) rfl) ?_
  refine px (fun _ => pm_iload (pc := 14) d_Mo_picked_14 rfl) ?_
  refine pxb (fun _ => pm_if_ge (pc := 16) (tgt := 30) d_Mo_picked_16 (by decide)) (fun c_1 => ?_) (fun c_1 => ?_)
  · refine px (fun _ => pm_iload (pc := 30) d_Mo_picked_30 rfl) ?_
    refine pxb (fun _ => pm_if_lt (pc := 32) (tgt := 46) d_Mo_picked_32 (by decide)) (fun c_2 => ?_) (fun c_2 => ?_)
    · refine px (fun _ => pm_aload_n (pc := 46) d_Mo_picked_46 rfl) ?_
      refine px (fun _ => pm_iconst (v := 4) (pc := 47) d_Mo_picked_47 rfl) ?_
      obtain ⟨⟨o3, h3⟩, ⟨e3, H3, F3⟩, en3⟩ := m_trouble4 (l := l) (G := G) (fi := fi) (T := T) hl H hn
      dsimp only at e3 H3 F3
      subst e3
      refine px (fun _ => k_Mo_picked_48 (kc1 := 0) (ks1 := 0) (kc := 0) (ks := 0) (av := [.int (4)]) (st := []) H.1 (en3) rfl rfl (Nat.le_of_ble_eq_true rfl)) ?_
      refine px (fun _ => pm_dconst0 (pc := 51) d_Mo_picked_51) ?_
      exact pxr (pm_dret (pc := 52) d_Mo_picked_52 rfl) ⟨rfl, H3, F3⟩
    · refine px (fun _ => pm_iload (pc := 35) d_Mo_picked_35 rfl) ?_
      refine px (fun _ => pm_aload_n (pc := 37) d_Mo_picked_37 rfl) ?_
      refine px (fun _ => pm_getf fl_Mo_16 (pc := 38) d_Mo_picked_38 H.1 rfl) ?_
      refine px (fun _ => pm_iload_n (pc := 41) d_Mo_picked_41 rfl) ?_
      refine px (fun _ => pm_iald (j := a) (pc := 42) d_Mo_picked_42 H.2.2.2.1 (rfl) (ha) (by decide)) ?_
      refine pxb (fun _ => pm_icmp_lt (pc := 43) (tgt := 53) d_Mo_picked_43 (by decide)) (fun c_4 => ?_) (fun c_4 => ?_)
      · refine absurd ?_ hin
        unfold g_inR g_rw
        rw [if_pos (by assumption), ← t2]
        exact ⟨by assumption, Int32.not_le.mpr (by assumption)⟩
      · refine px (fun _ => pm_aload_n (pc := 46) d_Mo_picked_46 rfl) ?_
        refine px (fun _ => pm_iconst (v := 4) (pc := 47) d_Mo_picked_47 rfl) ?_
        obtain ⟨⟨o5, h5⟩, ⟨e5, H5, F5⟩, en5⟩ := m_trouble4 (l := l) (G := G) (fi := fi) (T := T) hl H hn
        dsimp only at e5 H5 F5
        subst e5
        refine px (fun _ => k_Mo_picked_48 (kc1 := 0) (ks1 := 0) (kc := 0) (ks := 0) (av := [.int (4)]) (st := []) H.1 (en5) rfl rfl (Nat.le_of_ble_eq_true rfl)) ?_
        refine px (fun _ => pm_dconst0 (pc := 51) d_Mo_picked_51) ?_
        exact pxr (pm_dret (pc := 52) d_Mo_picked_52 rfl) ⟨rfl, H5, F5⟩
  · refine px (fun _ => pm_iload (pc := 19) d_Mo_picked_19 rfl) ?_
    refine px (fun _ => pm_aload_n (pc := 21) d_Mo_picked_21 rfl) ?_
    refine px (fun _ => pm_getf fl_Mo_16 (pc := 22) d_Mo_picked_22 H.1 rfl) ?_
    refine px (fun _ => pm_iload_n (pc := 25) d_Mo_picked_25 rfl) ?_
    refine px (fun _ => pm_iald (j := a) (pc := 26) d_Mo_picked_26 H.2.2.2.1 (rfl) (ha) (by decide)) ?_
    refine px (fun _ => pm_iadd (pc := 27) d_Mo_picked_27) ?_
    refine px (fun _ => pm_istore (lv' := [(5, .int (((FP.d2i (gC S b (0 * 4 + i))) + nI (mA T 2 a)))), (0, .ref (95)), (1, .int (nI a)), (2, .int (nI b)), (3, .int (nI i)), (4, .int (nI j))]) (pc := 28) d_Mo_picked_28 (by decide) rfl) ?_
    refine px (fun _ => pm_iload (pc := 30) d_Mo_picked_30 rfl) ?_
    refine pxb (fun _ => pm_if_lt (pc := 32) (tgt := 46) d_Mo_picked_32 (by decide)) (fun c_6 => ?_) (fun c_6 => ?_)
    · refine px (fun _ => pm_aload_n (pc := 46) d_Mo_picked_46 rfl) ?_
      refine px (fun _ => pm_iconst (v := 4) (pc := 47) d_Mo_picked_47 rfl) ?_
      obtain ⟨⟨o7, h7⟩, ⟨e7, H7, F7⟩, en7⟩ := m_trouble4 (l := l) (G := G) (fi := fi) (T := T) hl H hn
      dsimp only at e7 H7 F7
      subst e7
      refine px (fun _ => k_Mo_picked_48 (kc1 := 0) (ks1 := 0) (kc := 0) (ks := 0) (av := [.int (4)]) (st := []) H.1 (en7) rfl rfl (Nat.le_of_ble_eq_true rfl)) ?_
      refine px (fun _ => pm_dconst0 (pc := 51) d_Mo_picked_51) ?_
      exact pxr (pm_dret (pc := 52) d_Mo_picked_52 rfl) ⟨rfl, H7, F7⟩
    · refine px (fun _ => pm_iload (pc := 35) d_Mo_picked_35 rfl) ?_
      refine px (fun _ => pm_aload_n (pc := 37) d_Mo_picked_37 rfl) ?_
      refine px (fun _ => pm_getf fl_Mo_16 (pc := 38) d_Mo_picked_38 H.1 rfl) ?_
      refine px (fun _ => pm_iload_n (pc := 41) d_Mo_picked_41 rfl) ?_
      refine px (fun _ => pm_iald (j := a) (pc := 42) d_Mo_picked_42 H.2.2.2.1 (rfl) (ha) (by decide)) ?_
      refine pxb (fun _ => pm_icmp_lt (pc := 43) (tgt := 53) d_Mo_picked_43 (by decide)) (fun c_8 => ?_) (fun c_8 => ?_)
      · refine absurd ?_ hin
        unfold g_inR g_rw
        rw [if_neg (by assumption), Int32.add_comm, ← t2]
        exact ⟨by assumption, Int32.not_le.mpr (by assumption)⟩
      · refine px (fun _ => pm_aload_n (pc := 46) d_Mo_picked_46 rfl) ?_
        refine px (fun _ => pm_iconst (v := 4) (pc := 47) d_Mo_picked_47 rfl) ?_
        obtain ⟨⟨o9, h9⟩, ⟨e9, H9, F9⟩, en9⟩ := m_trouble4 (l := l) (G := G) (fi := fi) (T := T) hl H hn
        dsimp only at e9 H9 F9
        subst e9
        refine px (fun _ => k_Mo_picked_48 (kc1 := 0) (ks1 := 0) (kc := 0) (ks := 0) (av := [.int (4)]) (st := []) H.1 (en9) rfl rfl (Nat.le_of_ble_eq_true rfl)) ?_
        refine px (fun _ => pm_dconst0 (pc := 51) d_Mo_picked_51) ?_
        exact pxr (pm_dret (pc := 52) d_Mo_picked_52 rfl) ⟨rfl, H9, F9⟩
