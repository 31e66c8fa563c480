/-! ===== the model: the element of an outcome ===== -/
set_option maxHeartbeats 1000000 in
set_option maxRecDepth 20000 in
theorem e_0i {l : Launch} {G : pm_G} {fi : Bool} {h : pm_H} {S : gS} {T : mS} {n a b i j : Nat} (hl : l.stackTraces = false) (H : mH T h) (hn : n < 14) (hop : mA T 6 n = 0) (hi4 : i < 4) (hj4 : j < 4) (ea : mQ T 12 (n * 3) = nI a) (ha : a < 20) (ta : mTb S T a) (ca : mCl S T a) (ra : g_rng S a) (eb : mQ T 12 (n * 3 + 1) = nI b) (hb : b < 20) (tb : mTb S T b) (cb : mCl S T b) (rb : g_rng S b) (ia : gT S a 1 = 1 ∨ i < gT S a 1) (ja : gT S a 2 = 1 ∨ j < gT S a 2) (ib : gT S b 1 = 1 ∨ i < gT S b 1) (jb : gT S b 2 = 1 ∨ j < gT S b 2) (hty : gT S a 0 = 1) : pm_En l G fi fi 0 0 M_Mo_element [.ref (95), .int (nI n), .int (nI i), .int (nI j)] h (.inl (some (.double (FP.i2d (g_pi 0 (FP.d2i (g_ag S a i j)) (FP.d2i (g_ag S b i j)))))), h) := by
  refine pm_Cn.eq (pm_Cn.of hl (by decide) (Nat.le_of_ble_eq_true rfl) ?_)
  obtain ⟨r1, r2, r3, r4, r5⟩ := id ra
  obtain ⟨s1, s2, s3, s4, s5⟩ := id rb
  refine px (fun _ => pm_aload_n (pc := 0) d_Mo_element_0 rfl) ?_
  refine px (fun _ => pm_getf fl_Mo_29 (pc := 1) d_Mo_element_1 H.1 rfl) ?_
  refine px (fun _ => pm_iload_n (pc := 4) d_Mo_element_4 rfl) ?_
  refine px (fun _ => pm_iald (j := n) (pc := 5) d_Mo_element_5 H.2.2.2.2.2.2.2.1 (rfl) (hn) (by decide)) ?_
  refine px (fun _ => pm_istore (lv' := [(4, .int (nI (mA T 6 n))), (0, .ref (95)), (1, .int (nI n)), (2, .int (nI i)), (3, .int (nI j))]) (pc := 6) d_Mo_element_6 (by decide) rfl) ?_
  refine px (fun _ => pm_aload_n (pc := 8) d_Mo_element_8 rfl) ?_
  refine px (fun _ => pm_getf fl_Mo_47 (pc := 9) d_Mo_element_9 H.1 rfl) ?_
  refine px (fun _ => pm_iload_n (pc := 12) d_Mo_element_12 rfl) ?_
  refine px (fun _ => pm_iconst (v := 3) (pc := 13) d_Mo_element_13 rfl) ?_
  refine px (fun _ => pm_imulN (a := n) (b := 3) (pc := 14) d_Mo_element_14) ?_
  refine px (fun _ => pm_iald (j := n * 3) (pc := 15) d_Mo_element_15 H.2.2.2.2.2.2.2.2.2.2.2.2.2.1 (rfl) (by omega) (by decide)) ?_
  rw [ea]
  refine px (fun _ => pm_istore (lv' := [(5, .int (nI a)), (4, .int (nI (mA T 6 n))), (0, .ref (95)), (1, .int (nI n)), (2, .int (nI i)), (3, .int (nI j))]) (pc := 16) d_Mo_element_16 (by decide) rfl) ?_
  refine px (fun _ => pm_aload_n (pc := 18) d_Mo_element_18 rfl) ?_
  refine px (fun _ => pm_getf fl_Mo_47 (pc := 19) d_Mo_element_19 H.1 rfl) ?_
  refine px (fun _ => pm_iload_n (pc := 22) d_Mo_element_22 rfl) ?_
  refine px (fun _ => pm_iconst (v := 3) (pc := 23) d_Mo_element_23 rfl) ?_
  refine px (fun _ => pm_imulN (a := n) (b := 3) (pc := 24) d_Mo_element_24) ?_
  refine px (fun _ => pm_iconst (v := 1) (pc := 25) d_Mo_element_25 rfl) ?_
  refine px (fun _ => pm_iaddN (a := (n * 3)) (b := 1) (pc := 26) d_Mo_element_26) ?_
  refine px (fun _ => pm_iald (j := n * 3 + 1) (pc := 27) d_Mo_element_27 H.2.2.2.2.2.2.2.2.2.2.2.2.2.1 (rfl) (by omega) (by decide)) ?_
  rw [eb]
  refine px (fun _ => pm_istore (lv' := [(6, .int (nI b)), (5, .int (nI a)), (4, .int (nI (mA T 6 n))), (0, .ref (95)), (1, .int (nI n)), (2, .int (nI i)), (3, .int (nI j))]) (pc := 28) d_Mo_element_28 (by decide) rfl) ?_
  refine px (fun _ => pm_aload_n (pc := 30) d_Mo_element_30 rfl) ?_
  refine px (fun _ => pm_getf fl_Mo_47 (pc := 31) d_Mo_element_31 H.1 rfl) ?_
  refine px (fun _ => pm_iload_n (pc := 34) d_Mo_element_34 rfl) ?_
  refine px (fun _ => pm_iconst (v := 3) (pc := 35) d_Mo_element_35 rfl) ?_
  refine px (fun _ => pm_imulN (a := n) (b := 3) (pc := 36) d_Mo_element_36) ?_
  refine px (fun _ => pm_iconst (v := 2) (pc := 37) d_Mo_element_37 rfl) ?_
  refine px (fun _ => pm_iaddN (a := (n * 3)) (b := 2) (pc := 38) d_Mo_element_38) ?_
  refine px (fun _ => pm_iald (j := n * 3 + 2) (pc := 39) d_Mo_element_39 H.2.2.2.2.2.2.2.2.2.2.2.2.2.1 (rfl) (by omega) (by decide)) ?_
  refine px (fun _ => pm_istore (lv' := [(7, .int ((mQ T 12) (n * 3 + 2))), (6, .int (nI b)), (5, .int (nI a)), (4, .int (nI (mA T 6 n))), (0, .ref (95)), (1, .int (nI n)), (2, .int (nI i)), (3, .int (nI j))]) (pc := 40) d_Mo_element_40 (by decide) rfl) ?_
  refine px (fun _ => pm_iload (pc := 42) d_Mo_element_42 rfl) ?_
  have tx_44 : (nI (mA T 6 n) : Int32).toInt = 0 := by rw [hop]; rfl
  refine px (fun _ => pm_tabIn (off := 88) (tgt := 132) (pc := 44) d_Mo_element_44 (by rw [tx_44]; decide) (by rw [tx_44]; decide) (by rw [tx_44]; rfl) (by decide)) ?_
  refine px (fun _ => pm_aload_n (pc := 132) d_Mo_element_132 rfl) ?_
  refine px (fun _ => pm_iload (pc := 133) d_Mo_element_133 rfl) ?_
  refine px (fun _ => pm_aload_n (pc := 135) d_Mo_element_135 rfl) ?_
  refine px (fun _ => pm_iload (pc := 136) d_Mo_element_136 rfl) ?_
  refine px (fun _ => pm_iload_n (pc := 138) d_Mo_element_138 rfl) ?_
  refine px (fun _ => pm_iload_n (pc := 139) d_Mo_element_139 rfl) ?_
  refine px (fun _ => k_Mo_element_140 (kc1 := 0) (ks1 := 0) (kc := 0) (ks := 0) (av := [.int (nI a), .int (nI i), .int (nI j)]) (st := [.int (nI (mA T 6 n)), .ref (95)]) H.1 (m_at hl H ha ta ca ra hi4 hj4 ia ja) rfl rfl (Nat.le_of_ble_eq_true rfl)) ?_
  refine px (fun _ => pm_aload_n (pc := 143) d_Mo_element_143 rfl) ?_
  refine px (fun _ => pm_iload (pc := 144) d_Mo_element_144 rfl) ?_
  refine px (fun _ => pm_iload_n (pc := 146) d_Mo_element_146 rfl) ?_
  refine px (fun _ => pm_iload_n (pc := 147) d_Mo_element_147 rfl) ?_
  refine px (fun _ => k_Mo_element_148 (kc1 := 0) (ks1 := 0) (kc := 0) (ks := 0) (av := [.int (nI b), .int (nI i), .int (nI j)]) (st := [.double (g_ag S a i j), .int (nI (mA T 6 n)), .ref (95)]) H.1 (m_at hl H hb tb cb rb hi4 hj4 ib jb) rfl rfl (Nat.le_of_ble_eq_true rfl)) ?_
  refine px (fun _ => pm_aload_n (pc := 151) d_Mo_element_151 rfl) ?_
  refine px (fun _ => pm_getf fl_Mo_13 (pc := 152) d_Mo_element_152 H.1 rfl) ?_
  refine px (fun _ => pm_iload (pc := 155) d_Mo_element_155 rfl) ?_
  refine px (fun _ => pm_iald (j := a) (pc := 157) d_Mo_element_157 H.2.2.1 (rfl) (ha) (by decide)) ?_
  refine px (fun _ => pm_iconst (v := 1) (pc := 158) d_Mo_element_158 rfl) ?_
  refine pxn (fun _ => pm_icmp_ne (pc := 159) (tgt := 166) d_Mo_element_159 (by decide)) (fun c_1 => absurd (by rw [ta.1, hty]; rfl) c_1) (fun c_1 => ?_)
  refine px (fun _ => pm_iconst (v := 1) (pc := 162) d_Mo_element_162 rfl) ?_
  refine px (fun _ => pm_goto (tgt := 167) (pc := 163) d_Mo_element_163 (by decide)) ?_
  rw [hop]
  refine px (fun _ => k_Mo_element_167 (kc1 := 0) (ks1 := 0) (kc := 0) (ks := 0) (av := [.int (0), .double (g_ag S a i j), .double (g_ag S b i j), .int (1)]) (st := []) H.1 (m_plain0i (S := S) hl H) rfl rfl (Nat.le_of_ble_eq_true rfl)) ?_
  exact pxr (pm_dret (pc := 170) d_Mo_element_170 rfl) (rfl)
set_option maxHeartbeats 1000000 in
set_option maxRecDepth 20000 in
theorem e_0f {l : Launch} {G : pm_G} {fi : Bool} {h : pm_H} {S : gS} {T : mS} {n a b i j : Nat} (hl : l.stackTraces = false) (H : mH T h) (hn : n < 14) (hop : mA T 6 n = 0) (hi4 : i < 4) (hj4 : j < 4) (ea : mQ T 12 (n * 3) = nI a) (ha : a < 20) (ta : mTb S T a) (ca : mCl S T a) (ra : g_rng S a) (eb : mQ T 12 (n * 3 + 1) = nI b) (hb : b < 20) (tb : mTb S T b) (cb : mCl S T b) (rb : g_rng S b) (ia : gT S a 1 = 1 ∨ i < gT S a 1) (ja : gT S a 2 = 1 ∨ j < gT S a 2) (ib : gT S b 1 = 1 ∨ i < gT S b 1) (jb : gT S b 2 = 1 ∨ j < gT S b 2) (hty : ¬ gT S a 0 = 1) (hnn : vf_n64 (FP.dadd (g_ag S a i j) (g_ag S b i j))) : pm_En l G fi fi 0 0 M_Mo_element [.ref (95), .int (nI n), .int (nI i), .int (nI j)] h (.inl (some (.double (g_pf 0 (g_ag S a i j) (g_ag S b i j)))), h) := by
  refine pm_Cn.eq (pm_Cn.of hl (by decide) (Nat.le_of_ble_eq_true rfl) ?_)
  obtain ⟨r1, r2, r3, r4, r5⟩ := id ra
  obtain ⟨s1, s2, s3, s4, s5⟩ := id rb
  refine px (fun _ => pm_aload_n (pc := 0) d_Mo_element_0 rfl) ?_
  refine px (fun _ => pm_getf fl_Mo_29 (pc := 1) d_Mo_element_1 H.1 rfl) ?_
  refine px (fun _ => pm_iload_n (pc := 4) d_Mo_element_4 rfl) ?_
  refine px (fun _ => pm_iald (j := n) (pc := 5) d_Mo_element_5 H.2.2.2.2.2.2.2.1 (rfl) (hn) (by decide)) ?_
  refine px (fun _ => pm_istore (lv' := [(4, .int (nI (mA T 6 n))), (0, .ref (95)), (1, .int (nI n)), (2, .int (nI i)), (3, .int (nI j))]) (pc := 6) d_Mo_element_6 (by decide) rfl) ?_
  refine px (fun _ => pm_aload_n (pc := 8) d_Mo_element_8 rfl) ?_
  refine px (fun _ => pm_getf fl_Mo_47 (pc := 9) d_Mo_element_9 H.1 rfl) ?_
  refine px (fun _ => pm_iload_n (pc := 12) d_Mo_element_12 rfl) ?_
  refine px (fun _ => pm_iconst (v := 3) (pc := 13) d_Mo_element_13 rfl) ?_
  refine px (fun _ => pm_imulN (a := n) (b := 3) (pc := 14) d_Mo_element_14) ?_
  refine px (fun _ => pm_iald (j := n * 3) (pc := 15) d_Mo_element_15 H.2.2.2.2.2.2.2.2.2.2.2.2.2.1 (rfl) (by omega) (by decide)) ?_
  rw [ea]
  refine px (fun _ => pm_istore (lv' := [(5, .int (nI a)), (4, .int (nI (mA T 6 n))), (0, .ref (95)), (1, .int (nI n)), (2, .int (nI i)), (3, .int (nI j))]) (pc := 16) d_Mo_element_16 (by decide) rfl) ?_
  refine px (fun _ => pm_aload_n (pc := 18) d_Mo_element_18 rfl) ?_
  refine px (fun _ => pm_getf fl_Mo_47 (pc := 19) d_Mo_element_19 H.1 rfl) ?_
  refine px (fun _ => pm_iload_n (pc := 22) d_Mo_element_22 rfl) ?_
  refine px (fun _ => pm_iconst (v := 3) (pc := 23) d_Mo_element_23 rfl) ?_
  refine px (fun _ => pm_imulN (a := n) (b := 3) (pc := 24) d_Mo_element_24) ?_
  refine px (fun _ => pm_iconst (v := 1) (pc := 25) d_Mo_element_25 rfl) ?_
  refine px (fun _ => pm_iaddN (a := (n * 3)) (b := 1) (pc := 26) d_Mo_element_26) ?_
  refine px (fun _ => pm_iald (j := n * 3 + 1) (pc := 27) d_Mo_element_27 H.2.2.2.2.2.2.2.2.2.2.2.2.2.1 (rfl) (by omega) (by decide)) ?_
  rw [eb]
  refine px (fun _ => pm_istore (lv' := [(6, .int (nI b)), (5, .int (nI a)), (4, .int (nI (mA T 6 n))), (0, .ref (95)), (1, .int (nI n)), (2, .int (nI i)), (3, .int (nI j))]) (pc := 28) d_Mo_element_28 (by decide) rfl) ?_
  refine px (fun _ => pm_aload_n (pc := 30) d_Mo_element_30 rfl) ?_
  refine px (fun _ => pm_getf fl_Mo_47 (pc := 31) d_Mo_element_31 H.1 rfl) ?_
  refine px (fun _ => pm_iload_n (pc := 34) d_Mo_element_34 rfl) ?_
  refine px (fun _ => pm_iconst (v := 3) (pc := 35) d_Mo_element_35 rfl) ?_
  refine px (fun _ => pm_imulN (a := n) (b := 3) (pc := 36) d_Mo_element_36) ?_
  refine px (fun _ => pm_iconst (v := 2) (pc := 37) d_Mo_element_37 rfl) ?_
  refine px (fun _ => pm_iaddN (a := (n * 3)) (b := 2) (pc := 38) d_Mo_element_38) ?_
  refine px (fun _ => pm_iald (j := n * 3 + 2) (pc := 39) d_Mo_element_39 H.2.2.2.2.2.2.2.2.2.2.2.2.2.1 (rfl) (by omega) (by decide)) ?_
  refine px (fun _ => pm_istore (lv' := [(7, .int ((mQ T 12) (n * 3 + 2))), (6, .int (nI b)), (5, .int (nI a)), (4, .int (nI (mA T 6 n))), (0, .ref (95)), (1, .int (nI n)), (2, .int (nI i)), (3, .int (nI j))]) (pc := 40) d_Mo_element_40 (by decide) rfl) ?_
  refine px (fun _ => pm_iload (pc := 42) d_Mo_element_42 rfl) ?_
  have tx_44 : (nI (mA T 6 n) : Int32).toInt = 0 := by rw [hop]; rfl
  refine px (fun _ => pm_tabIn (off := 88) (tgt := 132) (pc := 44) d_Mo_element_44 (by rw [tx_44]; decide) (by rw [tx_44]; decide) (by rw [tx_44]; rfl) (by decide)) ?_
  refine px (fun _ => pm_aload_n (pc := 132) d_Mo_element_132 rfl) ?_
  refine px (fun _ => pm_iload (pc := 133) d_Mo_element_133 rfl) ?_
  refine px (fun _ => pm_aload_n (pc := 135) d_Mo_element_135 rfl) ?_
  refine px (fun _ => pm_iload (pc := 136) d_Mo_element_136 rfl) ?_
  refine px (fun _ => pm_iload_n (pc := 138) d_Mo_element_138 rfl) ?_
  refine px (fun _ => pm_iload_n (pc := 139) d_Mo_element_139 rfl) ?_
  refine px (fun _ => k_Mo_element_140 (kc1 := 0) (ks1 := 0) (kc := 0) (ks := 0) (av := [.int (nI a), .int (nI i), .int (nI j)]) (st := [.int (nI (mA T 6 n)), .ref (95)]) H.1 (m_at hl H ha ta ca ra hi4 hj4 ia ja) rfl rfl (Nat.le_of_ble_eq_true rfl)) ?_
  refine px (fun _ => pm_aload_n (pc := 143) d_Mo_element_143 rfl) ?_
  refine px (fun _ => pm_iload (pc := 144) d_Mo_element_144 rfl) ?_
  refine px (fun _ => pm_iload_n (pc := 146) d_Mo_element_146 rfl) ?_
  refine px (fun _ => pm_iload_n (pc := 147) d_Mo_element_147 rfl) ?_
  refine px (fun _ => k_Mo_element_148 (kc1 := 0) (ks1 := 0) (kc := 0) (ks := 0) (av := [.int (nI b), .int (nI i), .int (nI j)]) (st := [.double (g_ag S a i j), .int (nI (mA T 6 n)), .ref (95)]) H.1 (m_at hl H hb tb cb rb hi4 hj4 ib jb) rfl rfl (Nat.le_of_ble_eq_true rfl)) ?_
  refine px (fun _ => pm_aload_n (pc := 151) d_Mo_element_151 rfl) ?_
  refine px (fun _ => pm_getf fl_Mo_13 (pc := 152) d_Mo_element_152 H.1 rfl) ?_
  refine px (fun _ => pm_iload (pc := 155) d_Mo_element_155 rfl) ?_
  refine px (fun _ => pm_iald (j := a) (pc := 157) d_Mo_element_157 H.2.2.1 (rfl) (ha) (by decide)) ?_
  refine px (fun _ => pm_iconst (v := 1) (pc := 158) d_Mo_element_158 rfl) ?_
  refine pxn (fun _ => pm_icmp_ne (pc := 159) (tgt := 166) d_Mo_element_159 (by decide)) (fun c_1 => ?_) (fun c_1 => absurd c_1 (by rw [ta.1]; exact fun q => hty ((nI_eq (a := gT S a 0) (b := 1) (by omega) (by omega)).mp q)))
  refine px (fun _ => pm_iconst (v := 0) (pc := 166) d_Mo_element_166 rfl) ?_
  rw [hop]
  refine px (fun _ => k_Mo_element_167 (kc1 := 0) (ks1 := 0) (kc := 0) (ks := 0) (av := [.int (0), .double (g_ag S a i j), .double (g_ag S b i j), .int (0)]) (st := []) H.1 (m_plain0f (S := S) hl H hnn) rfl rfl (Nat.le_of_ble_eq_true rfl)) ?_
  exact pxr (pm_dret (pc := 170) d_Mo_element_170 rfl) (rfl)
set_option maxHeartbeats 1000000 in
set_option maxRecDepth 20000 in
theorem e_1i {l : Launch} {G : pm_G} {fi : Bool} {h : pm_H} {S : gS} {T : mS} {n a b i j : Nat} (hl : l.stackTraces = false) (H : mH T h) (hn : n < 14) (hop : mA T 6 n = 1) (hi4 : i < 4) (hj4 : j < 4) (ea : mQ T 12 (n * 3) = nI a) (ha : a < 20) (ta : mTb S T a) (ca : mCl S T a) (ra : g_rng S a) (eb : mQ T 12 (n * 3 + 1) = nI b) (hb : b < 20) (tb : mTb S T b) (cb : mCl S T b) (rb : g_rng S b) (ia : gT S a 1 = 1 ∨ i < gT S a 1) (ja : gT S a 2 = 1 ∨ j < gT S a 2) (ib : gT S b 1 = 1 ∨ i < gT S b 1) (jb : gT S b 2 = 1 ∨ j < gT S b 2) (hty : gT S a 0 = 1) : pm_En l G fi fi 0 0 M_Mo_element [.ref (95), .int (nI n), .int (nI i), .int (nI j)] h (.inl (some (.double (FP.i2d (g_pi 1 (FP.d2i (g_ag S a i j)) (FP.d2i (g_ag S b i j)))))), h) := by
  refine pm_Cn.eq (pm_Cn.of hl (by decide) (Nat.le_of_ble_eq_true rfl) ?_)
  obtain ⟨r1, r2, r3, r4, r5⟩ := id ra
  obtain ⟨s1, s2, s3, s4, s5⟩ := id rb
  refine px (fun _ => pm_aload_n (pc := 0) d_Mo_element_0 rfl) ?_
  refine px (fun _ => pm_getf fl_Mo_29 (pc := 1) d_Mo_element_1 H.1 rfl) ?_
  refine px (fun _ => pm_iload_n (pc := 4) d_Mo_element_4 rfl) ?_
  refine px (fun _ => pm_iald (j := n) (pc := 5) d_Mo_element_5 H.2.2.2.2.2.2.2.1 (rfl) (hn) (by decide)) ?_
  refine px (fun _ => pm_istore (lv' := [(4, .int (nI (mA T 6 n))), (0, .ref (95)), (1, .int (nI n)), (2, .int (nI i)), (3, .int (nI j))]) (pc := 6) d_Mo_element_6 (by decide) rfl) ?_
  refine px (fun _ => pm_aload_n (pc := 8) d_Mo_element_8 rfl) ?_
  refine px (fun _ => pm_getf fl_Mo_47 (pc := 9) d_Mo_element_9 H.1 rfl) ?_
  refine px (fun _ => pm_iload_n (pc := 12) d_Mo_element_12 rfl) ?_
  refine px (fun _ => pm_iconst (v := 3) (pc := 13) d_Mo_element_13 rfl) ?_
  refine px (fun _ => pm_imulN (a := n) (b := 3) (pc := 14) d_Mo_element_14) ?_
  refine px (fun _ => pm_iald (j := n * 3) (pc := 15) d_Mo_element_15 H.2.2.2.2.2.2.2.2.2.2.2.2.2.1 (rfl) (by omega) (by decide)) ?_
  rw [ea]
  refine px (fun _ => pm_istore (lv' := [(5, .int (nI a)), (4, .int (nI (mA T 6 n))), (0, .ref (95)), (1, .int (nI n)), (2, .int (nI i)), (3, .int (nI j))]) (pc := 16) d_Mo_element_16 (by decide) rfl) ?_
  refine px (fun _ => pm_aload_n (pc := 18) d_Mo_element_18 rfl) ?_
  refine px (fun _ => pm_getf fl_Mo_47 (pc := 19) d_Mo_element_19 H.1 rfl) ?_
  refine px (fun _ => pm_iload_n (pc := 22) d_Mo_element_22 rfl) ?_
  refine px (fun _ => pm_iconst (v := 3) (pc := 23) d_Mo_element_23 rfl) ?_
  refine px (fun _ => pm_imulN (a := n) (b := 3) (pc := 24) d_Mo_element_24) ?_
  refine px (fun _ => pm_iconst (v := 1) (pc := 25) d_Mo_element_25 rfl) ?_
  refine px (fun _ => pm_iaddN (a := (n * 3)) (b := 1) (pc := 26) d_Mo_element_26) ?_
  refine px (fun _ => pm_iald (j := n * 3 + 1) (pc := 27) d_Mo_element_27 H.2.2.2.2.2.2.2.2.2.2.2.2.2.1 (rfl) (by omega) (by decide)) ?_
  rw [eb]
  refine px (fun _ => pm_istore (lv' := [(6, .int (nI b)), (5, .int (nI a)), (4, .int (nI (mA T 6 n))), (0, .ref (95)), (1, .int (nI n)), (2, .int (nI i)), (3, .int (nI j))]) (pc := 28) d_Mo_element_28 (by decide) rfl) ?_
  refine px (fun _ => pm_aload_n (pc := 30) d_Mo_element_30 rfl) ?_
  refine px (fun _ => pm_getf fl_Mo_47 (pc := 31) d_Mo_element_31 H.1 rfl) ?_
  refine px (fun _ => pm_iload_n (pc := 34) d_Mo_element_34 rfl) ?_
  refine px (fun _ => pm_iconst (v := 3) (pc := 35) d_Mo_element_35 rfl) ?_
  refine px (fun _ => pm_imulN (a := n) (b := 3) (pc := 36) d_Mo_element_36) ?_
  refine px (fun _ => pm_iconst (v := 2) (pc := 37) d_Mo_element_37 rfl) ?_
  refine px (fun _ => pm_iaddN (a := (n * 3)) (b := 2) (pc := 38) d_Mo_element_38) ?_
  refine px (fun _ => pm_iald (j := n * 3 + 2) (pc := 39) d_Mo_element_39 H.2.2.2.2.2.2.2.2.2.2.2.2.2.1 (rfl) (by omega) (by decide)) ?_
  refine px (fun _ => pm_istore (lv' := [(7, .int ((mQ T 12) (n * 3 + 2))), (6, .int (nI b)), (5, .int (nI a)), (4, .int (nI (mA T 6 n))), (0, .ref (95)), (1, .int (nI n)), (2, .int (nI i)), (3, .int (nI j))]) (pc := 40) d_Mo_element_40 (by decide) rfl) ?_
  refine px (fun _ => pm_iload (pc := 42) d_Mo_element_42 rfl) ?_
  have tx_44 : (nI (mA T 6 n) : Int32).toInt = 1 := by rw [hop]; rfl
  refine px (fun _ => pm_tabIn (off := 88) (tgt := 132) (pc := 44) d_Mo_element_44 (by rw [tx_44]; decide) (by rw [tx_44]; decide) (by rw [tx_44]; rfl) (by decide)) ?_
  refine px (fun _ => pm_aload_n (pc := 132) d_Mo_element_132 rfl) ?_
  refine px (fun _ => pm_iload (pc := 133) d_Mo_element_133 rfl) ?_
  refine px (fun _ => pm_aload_n (pc := 135) d_Mo_element_135 rfl) ?_
  refine px (fun _ => pm_iload (pc := 136) d_Mo_element_136 rfl) ?_
  refine px (fun _ => pm_iload_n (pc := 138) d_Mo_element_138 rfl) ?_
  refine px (fun _ => pm_iload_n (pc := 139) d_Mo_element_139 rfl) ?_
  refine px (fun _ => k_Mo_element_140 (kc1 := 0) (ks1 := 0) (kc := 0) (ks := 0) (av := [.int (nI a), .int (nI i), .int (nI j)]) (st := [.int (nI (mA T 6 n)), .ref (95)]) H.1 (m_at hl H ha ta ca ra hi4 hj4 ia ja) rfl rfl (Nat.le_of_ble_eq_true rfl)) ?_
  refine px (fun _ => pm_aload_n (pc := 143) d_Mo_element_143 rfl) ?_
  refine px (fun _ => pm_iload (pc := 144) d_Mo_element_144 rfl) ?_
  refine px (fun _ => pm_iload_n (pc := 146) d_Mo_element_146 rfl) ?_
  refine px (fun _ => pm_iload_n (pc := 147) d_Mo_element_147 rfl) ?_
  refine px (fun _ => k_Mo_element_148 (kc1 := 0) (ks1 := 0) (kc := 0) (ks := 0) (av := [.int (nI b), .int (nI i), .int (nI j)]) (st := [.double (g_ag S a i j), .int (nI (mA T 6 n)), .ref (95)]) H.1 (m_at hl H hb tb cb rb hi4 hj4 ib jb) rfl rfl (Nat.le_of_ble_eq_true rfl)) ?_
  refine px (fun _ => pm_aload_n (pc := 151) d_Mo_element_151 rfl) ?_
  refine px (fun _ => pm_getf fl_Mo_13 (pc := 152) d_Mo_element_152 H.1 rfl) ?_
  refine px (fun _ => pm_iload (pc := 155) d_Mo_element_155 rfl) ?_
  refine px (fun _ => pm_iald (j := a) (pc := 157) d_Mo_element_157 H.2.2.1 (rfl) (ha) (by decide)) ?_
  refine px (fun _ => pm_iconst (v := 1) (pc := 158) d_Mo_element_158 rfl) ?_
  refine pxn (fun _ => pm_icmp_ne (pc := 159) (tgt := 166) d_Mo_element_159 (by decide)) (fun c_1 => absurd (by rw [ta.1, hty]; rfl) c_1) (fun c_1 => ?_)
  refine px (fun _ => pm_iconst (v := 1) (pc := 162) d_Mo_element_162 rfl) ?_
  refine px (fun _ => pm_goto (tgt := 167) (pc := 163) d_Mo_element_163 (by decide)) ?_
  rw [hop]
  refine px (fun _ => k_Mo_element_167 (kc1 := 0) (ks1 := 0) (kc := 0) (ks := 0) (av := [.int (1), .double (g_ag S a i j), .double (g_ag S b i j), .int (1)]) (st := []) H.1 (m_plain1i (S := S) hl H) rfl rfl (Nat.le_of_ble_eq_true rfl)) ?_
  exact pxr (pm_dret (pc := 170) d_Mo_element_170 rfl) (rfl)
set_option maxHeartbeats 1000000 in
set_option maxRecDepth 20000 in
theorem e_1f {l : Launch} {G : pm_G} {fi : Bool} {h : pm_H} {S : gS} {T : mS} {n a b i j : Nat} (hl : l.stackTraces = false) (H : mH T h) (hn : n < 14) (hop : mA T 6 n = 1) (hi4 : i < 4) (hj4 : j < 4) (ea : mQ T 12 (n * 3) = nI a) (ha : a < 20) (ta : mTb S T a) (ca : mCl S T a) (ra : g_rng S a) (eb : mQ T 12 (n * 3 + 1) = nI b) (hb : b < 20) (tb : mTb S T b) (cb : mCl S T b) (rb : g_rng S b) (ia : gT S a 1 = 1 ∨ i < gT S a 1) (ja : gT S a 2 = 1 ∨ j < gT S a 2) (ib : gT S b 1 = 1 ∨ i < gT S b 1) (jb : gT S b 2 = 1 ∨ j < gT S b 2) (hty : ¬ gT S a 0 = 1) (hnn : vf_n64 (FP.dsub (g_ag S a i j) (g_ag S b i j))) : pm_En l G fi fi 0 0 M_Mo_element [.ref (95), .int (nI n), .int (nI i), .int (nI j)] h (.inl (some (.double (g_pf 1 (g_ag S a i j) (g_ag S b i j)))), h) := by
  refine pm_Cn.eq (pm_Cn.of hl (by decide) (Nat.le_of_ble_eq_true rfl) ?_)
  obtain ⟨r1, r2, r3, r4, r5⟩ := id ra
  obtain ⟨s1, s2, s3, s4, s5⟩ := id rb
  refine px (fun _ => pm_aload_n (pc := 0) d_Mo_element_0 rfl) ?_
  refine px (fun _ => pm_getf fl_Mo_29 (pc := 1) d_Mo_element_1 H.1 rfl) ?_
  refine px (fun _ => pm_iload_n (pc := 4) d_Mo_element_4 rfl) ?_
  refine px (fun _ => pm_iald (j := n) (pc := 5) d_Mo_element_5 H.2.2.2.2.2.2.2.1 (rfl) (hn) (by decide)) ?_
  refine px (fun _ => pm_istore (lv' := [(4, .int (nI (mA T 6 n))), (0, .ref (95)), (1, .int (nI n)), (2, .int (nI i)), (3, .int (nI j))]) (pc := 6) d_Mo_element_6 (by decide) rfl) ?_
  refine px (fun _ => pm_aload_n (pc := 8) d_Mo_element_8 rfl) ?_
  refine px (fun _ => pm_getf fl_Mo_47 (pc := 9) d_Mo_element_9 H.1 rfl) ?_
  refine px (fun _ => pm_iload_n (pc := 12) d_Mo_element_12 rfl) ?_
  refine px (fun _ => pm_iconst (v := 3) (pc := 13) d_Mo_element_13 rfl) ?_
  refine px (fun _ => pm_imulN (a := n) (b := 3) (pc := 14) d_Mo_element_14) ?_
  refine px (fun _ => pm_iald (j := n * 3) (pc := 15) d_Mo_element_15 H.2.2.2.2.2.2.2.2.2.2.2.2.2.1 (rfl) (by omega) (by decide)) ?_
  rw [ea]
  refine px (fun _ => pm_istore (lv' := [(5, .int (nI a)), (4, .int (nI (mA T 6 n))), (0, .ref (95)), (1, .int (nI n)), (2, .int (nI i)), (3, .int (nI j))]) (pc := 16) d_Mo_element_16 (by decide) rfl) ?_
  refine px (fun _ => pm_aload_n (pc := 18) d_Mo_element_18 rfl) ?_
  refine px (fun _ => pm_getf fl_Mo_47 (pc := 19) d_Mo_element_19 H.1 rfl) ?_
  refine px (fun _ => pm_iload_n (pc := 22) d_Mo_element_22 rfl) ?_
  refine px (fun _ => pm_iconst (v := 3) (pc := 23) d_Mo_element_23 rfl) ?_
  refine px (fun _ => pm_imulN (a := n) (b := 3) (pc := 24) d_Mo_element_24) ?_
  refine px (fun _ => pm_iconst (v := 1) (pc := 25) d_Mo_element_25 rfl) ?_
  refine px (fun _ => pm_iaddN (a := (n * 3)) (b := 1) (pc := 26) d_Mo_element_26) ?_
  refine px (fun _ => pm_iald (j := n * 3 + 1) (pc := 27) d_Mo_element_27 H.2.2.2.2.2.2.2.2.2.2.2.2.2.1 (rfl) (by omega) (by decide)) ?_
  rw [eb]
  refine px (fun _ => pm_istore (lv' := [(6, .int (nI b)), (5, .int (nI a)), (4, .int (nI (mA T 6 n))), (0, .ref (95)), (1, .int (nI n)), (2, .int (nI i)), (3, .int (nI j))]) (pc := 28) d_Mo_element_28 (by decide) rfl) ?_
  refine px (fun _ => pm_aload_n (pc := 30) d_Mo_element_30 rfl) ?_
  refine px (fun _ => pm_getf fl_Mo_47 (pc := 31) d_Mo_element_31 H.1 rfl) ?_
  refine px (fun _ => pm_iload_n (pc := 34) d_Mo_element_34 rfl) ?_
  refine px (fun _ => pm_iconst (v := 3) (pc := 35) d_Mo_element_35 rfl) ?_
  refine px (fun _ => pm_imulN (a := n) (b := 3) (pc := 36) d_Mo_element_36) ?_
  refine px (fun _ => pm_iconst (v := 2) (pc := 37) d_Mo_element_37 rfl) ?_
  refine px (fun _ => pm_iaddN (a := (n * 3)) (b := 2) (pc := 38) d_Mo_element_38) ?_
  refine px (fun _ => pm_iald (j := n * 3 + 2) (pc := 39) d_Mo_element_39 H.2.2.2.2.2.2.2.2.2.2.2.2.2.1 (rfl) (by omega) (by decide)) ?_
  refine px (fun _ => pm_istore (lv' := [(7, .int ((mQ T 12) (n * 3 + 2))), (6, .int (nI b)), (5, .int (nI a)), (4, .int (nI (mA T 6 n))), (0, .ref (95)), (1, .int (nI n)), (2, .int (nI i)), (3, .int (nI j))]) (pc := 40) d_Mo_element_40 (by decide) rfl) ?_
  refine px (fun _ => pm_iload (pc := 42) d_Mo_element_42 rfl) ?_
  have tx_44 : (nI (mA T 6 n) : Int32).toInt = 1 := by rw [hop]; rfl
  refine px (fun _ => pm_tabIn (off := 88) (tgt := 132) (pc := 44) d_Mo_element_44 (by rw [tx_44]; decide) (by rw [tx_44]; decide) (by rw [tx_44]; rfl) (by decide)) ?_
  refine px (fun _ => pm_aload_n (pc := 132) d_Mo_element_132 rfl) ?_
  refine px (fun _ => pm_iload (pc := 133) d_Mo_element_133 rfl) ?_
  refine px (fun _ => pm_aload_n (pc := 135) d_Mo_element_135 rfl) ?_
  refine px (fun _ => pm_iload (pc := 136) d_Mo_element_136 rfl) ?_
  refine px (fun _ => pm_iload_n (pc := 138) d_Mo_element_138 rfl) ?_
  refine px (fun _ => pm_iload_n (pc := 139) d_Mo_element_139 rfl) ?_
  refine px (fun _ => k_Mo_element_140 (kc1 := 0) (ks1 := 0) (kc := 0) (ks := 0) (av := [.int (nI a), .int (nI i), .int (nI j)]) (st := [.int (nI (mA T 6 n)), .ref (95)]) H.1 (m_at hl H ha ta ca ra hi4 hj4 ia ja) rfl rfl (Nat.le_of_ble_eq_true rfl)) ?_
  refine px (fun _ => pm_aload_n (pc := 143) d_Mo_element_143 rfl) ?_
  refine px (fun _ => pm_iload (pc := 144) d_Mo_element_144 rfl) ?_
  refine px (fun _ => pm_iload_n (pc := 146) d_Mo_element_146 rfl) ?_
  refine px (fun _ => pm_iload_n (pc := 147) d_Mo_element_147 rfl) ?_
  refine px (fun _ => k_Mo_element_148 (kc1 := 0) (ks1 := 0) (kc := 0) (ks := 0) (av := [.int (nI b), .int (nI i), .int (nI j)]) (st := [.double (g_ag S a i j), .int (nI (mA T 6 n)), .ref (95)]) H.1 (m_at hl H hb tb cb rb hi4 hj4 ib jb) rfl rfl (Nat.le_of_ble_eq_true rfl)) ?_
  refine px (fun _ => pm_aload_n (pc := 151) d_Mo_element_151 rfl) ?_
  refine px (fun _ => pm_getf fl_Mo_13 (pc := 152) d_Mo_element_152 H.1 rfl) ?_
  refine px (fun _ => pm_iload (pc := 155) d_Mo_element_155 rfl) ?_
  refine px (fun _ => pm_iald (j := a) (pc := 157) d_Mo_element_157 H.2.2.1 (rfl) (ha) (by decide)) ?_
  refine px (fun _ => pm_iconst (v := 1) (pc := 158) d_Mo_element_158 rfl) ?_
  refine pxn (fun _ => pm_icmp_ne (pc := 159) (tgt := 166) d_Mo_element_159 (by decide)) (fun c_1 => ?_) (fun c_1 => absurd c_1 (by rw [ta.1]; exact fun q => hty ((nI_eq (a := gT S a 0) (b := 1) (by omega) (by omega)).mp q)))
  refine px (fun _ => pm_iconst (v := 0) (pc := 166) d_Mo_element_166 rfl) ?_
  rw [hop]
  refine px (fun _ => k_Mo_element_167 (kc1 := 0) (ks1 := 0) (kc := 0) (ks := 0) (av := [.int (1), .double (g_ag S a i j), .double (g_ag S b i j), .int (0)]) (st := []) H.1 (m_plain1f (S := S) hl H hnn) rfl rfl (Nat.le_of_ble_eq_true rfl)) ?_
  exact pxr (pm_dret (pc := 170) d_Mo_element_170 rfl) (rfl)
set_option maxHeartbeats 1000000 in
set_option maxRecDepth 20000 in
theorem e_2i {l : Launch} {G : pm_G} {fi : Bool} {h : pm_H} {S : gS} {T : mS} {n a b i j : Nat} (hl : l.stackTraces = false) (H : mH T h) (hn : n < 14) (hop : mA T 6 n = 2) (hi4 : i < 4) (hj4 : j < 4) (ea : mQ T 12 (n * 3) = nI a) (ha : a < 20) (ta : mTb S T a) (ca : mCl S T a) (ra : g_rng S a) (eb : mQ T 12 (n * 3 + 1) = nI b) (hb : b < 20) (tb : mTb S T b) (cb : mCl S T b) (rb : g_rng S b) (ia : gT S a 1 = 1 ∨ i < gT S a 1) (ja : gT S a 2 = 1 ∨ j < gT S a 2) (ib : gT S b 1 = 1 ∨ i < gT S b 1) (jb : gT S b 2 = 1 ∨ j < gT S b 2) (hty : gT S a 0 = 1) : pm_En l G fi fi 0 0 M_Mo_element [.ref (95), .int (nI n), .int (nI i), .int (nI j)] h (.inl (some (.double (FP.i2d (g_pi 2 (FP.d2i (g_ag S a i j)) (FP.d2i (g_ag S b i j)))))), h) := by
  refine pm_Cn.eq (pm_Cn.of hl (by decide) (Nat.le_of_ble_eq_true rfl) ?_)
  obtain ⟨r1, r2, r3, r4, r5⟩ := id ra
  obtain ⟨s1, s2, s3, s4, s5⟩ := id rb
  refine px (fun _ => pm_aload_n (pc := 0) d_Mo_element_0 rfl) ?_
  refine px (fun _ => pm_getf fl_Mo_29 (pc := 1) d_Mo_element_1 H.1 rfl) ?_
  refine px (fun _ => pm_iload_n (pc := 4) d_Mo_element_4 rfl) ?_
  refine px (fun _ => pm_iald (j := n) (pc := 5) d_Mo_element_5 H.2.2.2.2.2.2.2.1 (rfl) (hn) (by decide)) ?_
  refine px (fun _ => pm_istore (lv' := [(4, .int (nI (mA T 6 n))), (0, .ref (95)), (1, .int (nI n)), (2, .int (nI i)), (3, .int (nI j))]) (pc := 6) d_Mo_element_6 (by decide) rfl) ?_
  refine px (fun _ => pm_aload_n (pc := 8) d_Mo_element_8 rfl) ?_
  refine px (fun _ => pm_getf fl_Mo_47 (pc := 9) d_Mo_element_9 H.1 rfl) ?_
  refine px (fun _ => pm_iload_n (pc := 12) d_Mo_element_12 rfl) ?_
  refine px (fun _ => pm_iconst (v := 3) (pc := 13) d_Mo_element_13 rfl) ?_
  refine px (fun _ => pm_imulN (a := n) (b := 3) (pc := 14) d_Mo_element_14) ?_
  refine px (fun _ => pm_iald (j := n * 3) (pc := 15) d_Mo_element_15 H.2.2.2.2.2.2.2.2.2.2.2.2.2.1 (rfl) (by omega) (by decide)) ?_
  rw [ea]
  refine px (fun _ => pm_istore (lv' := [(5, .int (nI a)), (4, .int (nI (mA T 6 n))), (0, .ref (95)), (1, .int (nI n)), (2, .int (nI i)), (3, .int (nI j))]) (pc := 16) d_Mo_element_16 (by decide) rfl) ?_
  refine px (fun _ => pm_aload_n (pc := 18) d_Mo_element_18 rfl) ?_
  refine px (fun _ => pm_getf fl_Mo_47 (pc := 19) d_Mo_element_19 H.1 rfl) ?_
  refine px (fun _ => pm_iload_n (pc := 22) d_Mo_element_22 rfl) ?_
  refine px (fun _ => pm_iconst (v := 3) (pc := 23) d_Mo_element_23 rfl) ?_
  refine px (fun _ => pm_imulN (a := n) (b := 3) (pc := 24) d_Mo_element_24) ?_
  refine px (fun _ => pm_iconst (v := 1) (pc := 25) d_Mo_element_25 rfl) ?_
  refine px (fun _ => pm_iaddN (a := (n * 3)) (b := 1) (pc := 26) d_Mo_element_26) ?_
  refine px (fun _ => pm_iald (j := n * 3 + 1) (pc := 27) d_Mo_element_27 H.2.2.2.2.2.2.2.2.2.2.2.2.2.1 (rfl) (by omega) (by decide)) ?_
  rw [eb]
  refine px (fun _ => pm_istore (lv' := [(6, .int (nI b)), (5, .int (nI a)), (4, .int (nI (mA T 6 n))), (0, .ref (95)), (1, .int (nI n)), (2, .int (nI i)), (3, .int (nI j))]) (pc := 28) d_Mo_element_28 (by decide) rfl) ?_
  refine px (fun _ => pm_aload_n (pc := 30) d_Mo_element_30 rfl) ?_
  refine px (fun _ => pm_getf fl_Mo_47 (pc := 31) d_Mo_element_31 H.1 rfl) ?_
  refine px (fun _ => pm_iload_n (pc := 34) d_Mo_element_34 rfl) ?_
  refine px (fun _ => pm_iconst (v := 3) (pc := 35) d_Mo_element_35 rfl) ?_
  refine px (fun _ => pm_imulN (a := n) (b := 3) (pc := 36) d_Mo_element_36) ?_
  refine px (fun _ => pm_iconst (v := 2) (pc := 37) d_Mo_element_37 rfl) ?_
  refine px (fun _ => pm_iaddN (a := (n * 3)) (b := 2) (pc := 38) d_Mo_element_38) ?_
  refine px (fun _ => pm_iald (j := n * 3 + 2) (pc := 39) d_Mo_element_39 H.2.2.2.2.2.2.2.2.2.2.2.2.2.1 (rfl) (by omega) (by decide)) ?_
  refine px (fun _ => pm_istore (lv' := [(7, .int ((mQ T 12) (n * 3 + 2))), (6, .int (nI b)), (5, .int (nI a)), (4, .int (nI (mA T 6 n))), (0, .ref (95)), (1, .int (nI n)), (2, .int (nI i)), (3, .int (nI j))]) (pc := 40) d_Mo_element_40 (by decide) rfl) ?_
  refine px (fun _ => pm_iload (pc := 42) d_Mo_element_42 rfl) ?_
  have tx_44 : (nI (mA T 6 n) : Int32).toInt = 2 := by rw [hop]; rfl
  refine px (fun _ => pm_tabIn (off := 88) (tgt := 132) (pc := 44) d_Mo_element_44 (by rw [tx_44]; decide) (by rw [tx_44]; decide) (by rw [tx_44]; rfl) (by decide)) ?_
  refine px (fun _ => pm_aload_n (pc := 132) d_Mo_element_132 rfl) ?_
  refine px (fun _ => pm_iload (pc := 133) d_Mo_element_133 rfl) ?_
  refine px (fun _ => pm_aload_n (pc := 135) d_Mo_element_135 rfl) ?_
  refine px (fun _ => pm_iload (pc := 136) d_Mo_element_136 rfl) ?_
  refine px (fun _ => pm_iload_n (pc := 138) d_Mo_element_138 rfl) ?_
  refine px (fun _ => pm_iload_n (pc := 139) d_Mo_element_139 rfl) ?_
  refine px (fun _ => k_Mo_element_140 (kc1 := 0) (ks1 := 0) (kc := 0) (ks := 0) (av := [.int (nI a), .int (nI i), .int (nI j)]) (st := [.int (nI (mA T 6 n)), .ref (95)]) H.1 (m_at hl H ha ta ca ra hi4 hj4 ia ja) rfl rfl (Nat.le_of_ble_eq_true rfl)) ?_
  refine px (fun _ => pm_aload_n (pc := 143) d_Mo_element_143 rfl) ?_
  refine px (fun _ => pm_iload (pc := 144) d_Mo_element_144 rfl) ?_
  refine px (fun _ => pm_iload_n (pc := 146) d_Mo_element_146 rfl) ?_
  refine px (fun _ => pm_iload_n (pc := 147) d_Mo_element_147 rfl) ?_
  refine px (fun _ => k_Mo_element_148 (kc1 := 0) (ks1 := 0) (kc := 0) (ks := 0) (av := [.int (nI b), .int (nI i), .int (nI j)]) (st := [.double (g_ag S a i j), .int (nI (mA T 6 n)), .ref (95)]) H.1 (m_at hl H hb tb cb rb hi4 hj4 ib jb) rfl rfl (Nat.le_of_ble_eq_true rfl)) ?_
  refine px (fun _ => pm_aload_n (pc := 151) d_Mo_element_151 rfl) ?_
  refine px (fun _ => pm_getf fl_Mo_13 (pc := 152) d_Mo_element_152 H.1 rfl) ?_
  refine px (fun _ => pm_iload (pc := 155) d_Mo_element_155 rfl) ?_
  refine px (fun _ => pm_iald (j := a) (pc := 157) d_Mo_element_157 H.2.2.1 (rfl) (ha) (by decide)) ?_
  refine px (fun _ => pm_iconst (v := 1) (pc := 158) d_Mo_element_158 rfl) ?_
  refine pxn (fun _ => pm_icmp_ne (pc := 159) (tgt := 166) d_Mo_element_159 (by decide)) (fun c_1 => absurd (by rw [ta.1, hty]; rfl) c_1) (fun c_1 => ?_)
  refine px (fun _ => pm_iconst (v := 1) (pc := 162) d_Mo_element_162 rfl) ?_
  refine px (fun _ => pm_goto (tgt := 167) (pc := 163) d_Mo_element_163 (by decide)) ?_
  rw [hop]
  refine px (fun _ => k_Mo_element_167 (kc1 := 0) (ks1 := 0) (kc := 0) (ks := 0) (av := [.int (2), .double (g_ag S a i j), .double (g_ag S b i j), .int (1)]) (st := []) H.1 (m_plain2i (S := S) hl H) rfl rfl (Nat.le_of_ble_eq_true rfl)) ?_
  exact pxr (pm_dret (pc := 170) d_Mo_element_170 rfl) (rfl)
set_option maxHeartbeats 1000000 in
set_option maxRecDepth 20000 in
theorem e_2f {l : Launch} {G : pm_G} {fi : Bool} {h : pm_H} {S : gS} {T : mS} {n a b i j : Nat} (hl : l.stackTraces = false) (H : mH T h) (hn : n < 14) (hop : mA T 6 n = 2) (hi4 : i < 4) (hj4 : j < 4) (ea : mQ T 12 (n * 3) = nI a) (ha : a < 20) (ta : mTb S T a) (ca : mCl S T a) (ra : g_rng S a) (eb : mQ T 12 (n * 3 + 1) = nI b) (hb : b < 20) (tb : mTb S T b) (cb : mCl S T b) (rb : g_rng S b) (ia : gT S a 1 = 1 ∨ i < gT S a 1) (ja : gT S a 2 = 1 ∨ j < gT S a 2) (ib : gT S b 1 = 1 ∨ i < gT S b 1) (jb : gT S b 2 = 1 ∨ j < gT S b 2) (hty : ¬ gT S a 0 = 1) (hnn : vf_n64 (FP.dmul (g_ag S a i j) (g_ag S b i j))) : pm_En l G fi fi 0 0 M_Mo_element [.ref (95), .int (nI n), .int (nI i), .int (nI j)] h (.inl (some (.double (g_pf 2 (g_ag S a i j) (g_ag S b i j)))), h) := by
  refine pm_Cn.eq (pm_Cn.of hl (by decide) (Nat.le_of_ble_eq_true rfl) ?_)
  obtain ⟨r1, r2, r3, r4, r5⟩ := id ra
  obtain ⟨s1, s2, s3, s4, s5⟩ := id rb
  refine px (fun _ => pm_aload_n (pc := 0) d_Mo_element_0 rfl) ?_
  refine px (fun _ => pm_getf fl_Mo_29 (pc := 1) d_Mo_element_1 H.1 rfl) ?_
  refine px (fun _ => pm_iload_n (pc := 4) d_Mo_element_4 rfl) ?_
  refine px (fun _ => pm_iald (j := n) (pc := 5) d_Mo_element_5 H.2.2.2.2.2.2.2.1 (rfl) (hn) (by decide)) ?_
  refine px (fun _ => pm_istore (lv' := [(4, .int (nI (mA T 6 n))), (0, .ref (95)), (1, .int (nI n)), (2, .int (nI i)), (3, .int (nI j))]) (pc := 6) d_Mo_element_6 (by decide) rfl) ?_
  refine px (fun _ => pm_aload_n (pc := 8) d_Mo_element_8 rfl) ?_
  refine px (fun _ => pm_getf fl_Mo_47 (pc := 9) d_Mo_element_9 H.1 rfl) ?_
  refine px (fun _ => pm_iload_n (pc := 12) d_Mo_element_12 rfl) ?_
  refine px (fun _ => pm_iconst (v := 3) (pc := 13) d_Mo_element_13 rfl) ?_
  refine px (fun _ => pm_imulN (a := n) (b := 3) (pc := 14) d_Mo_element_14) ?_
  refine px (fun _ => pm_iald (j := n * 3) (pc := 15) d_Mo_element_15 H.2.2.2.2.2.2.2.2.2.2.2.2.2.1 (rfl) (by omega) (by decide)) ?_
  rw [ea]
  refine px (fun _ => pm_istore (lv' := [(5, .int (nI a)), (4, .int (nI (mA T 6 n))), (0, .ref (95)), (1, .int (nI n)), (2, .int (nI i)), (3, .int (nI j))]) (pc := 16) d_Mo_element_16 (by decide) rfl) ?_
  refine px (fun _ => pm_aload_n (pc := 18) d_Mo_element_18 rfl) ?_
  refine px (fun _ => pm_getf fl_Mo_47 (pc := 19) d_Mo_element_19 H.1 rfl) ?_
  refine px (fun _ => pm_iload_n (pc := 22) d_Mo_element_22 rfl) ?_
  refine px (fun _ => pm_iconst (v := 3) (pc := 23) d_Mo_element_23 rfl) ?_
  refine px (fun _ => pm_imulN (a := n) (b := 3) (pc := 24) d_Mo_element_24) ?_
  refine px (fun _ => pm_iconst (v := 1) (pc := 25) d_Mo_element_25 rfl) ?_
  refine px (fun _ => pm_iaddN (a := (n * 3)) (b := 1) (pc := 26) d_Mo_element_26) ?_
  refine px (fun _ => pm_iald (j := n * 3 + 1) (pc := 27) d_Mo_element_27 H.2.2.2.2.2.2.2.2.2.2.2.2.2.1 (rfl) (by omega) (by decide)) ?_
  rw [eb]
  refine px (fun _ => pm_istore (lv' := [(6, .int (nI b)), (5, .int (nI a)), (4, .int (nI (mA T 6 n))), (0, .ref (95)), (1, .int (nI n)), (2, .int (nI i)), (3, .int (nI j))]) (pc := 28) d_Mo_element_28 (by decide) rfl) ?_
  refine px (fun _ => pm_aload_n (pc := 30) d_Mo_element_30 rfl) ?_
  refine px (fun _ => pm_getf fl_Mo_47 (pc := 31) d_Mo_element_31 H.1 rfl) ?_
  refine px (fun _ => pm_iload_n (pc := 34) d_Mo_element_34 rfl) ?_
  refine px (fun _ => pm_iconst (v := 3) (pc := 35) d_Mo_element_35 rfl) ?_
  refine px (fun _ => pm_imulN (a := n) (b := 3) (pc := 36) d_Mo_element_36) ?_
  refine px (fun _ => pm_iconst (v := 2) (pc := 37) d_Mo_element_37 rfl) ?_
  refine px (fun _ => pm_iaddN (a := (n * 3)) (b := 2) (pc := 38) d_Mo_element_38) ?_
  refine px (fun _ => pm_iald (j := n * 3 + 2) (pc := 39) d_Mo_element_39 H.2.2.2.2.2.2.2.2.2.2.2.2.2.1 (rfl) (by omega) (by decide)) ?_
  refine px (fun _ => pm_istore (lv' := [(7, .int ((mQ T 12) (n * 3 + 2))), (6, .int (nI b)), (5, .int (nI a)), (4, .int (nI (mA T 6 n))), (0, .ref (95)), (1, .int (nI n)), (2, .int (nI i)), (3, .int (nI j))]) (pc := 40) d_Mo_element_40 (by decide) rfl) ?_
  refine px (fun _ => pm_iload (pc := 42) d_Mo_element_42 rfl) ?_
  have tx_44 : (nI (mA T 6 n) : Int32).toInt = 2 := by rw [hop]; rfl
  refine px (fun _ => pm_tabIn (off := 88) (tgt := 132) (pc := 44) d_Mo_element_44 (by rw [tx_44]; decide) (by rw [tx_44]; decide) (by rw [tx_44]; rfl) (by decide)) ?_
  refine px (fun _ => pm_aload_n (pc := 132) d_Mo_element_132 rfl) ?_
  refine px (fun _ => pm_iload (pc := 133) d_Mo_element_133 rfl) ?_
  refine px (fun _ => pm_aload_n (pc := 135) d_Mo_element_135 rfl) ?_
  refine px (fun _ => pm_iload (pc := 136) d_Mo_element_136 rfl) ?_
  refine px (fun _ => pm_iload_n (pc := 138) d_Mo_element_138 rfl) ?_
  refine px (fun _ => pm_iload_n (pc := 139) d_Mo_element_139 rfl) ?_
  refine px (fun _ => k_Mo_element_140 (kc1 := 0) (ks1 := 0) (kc := 0) (ks := 0) (av := [.int (nI a), .int (nI i), .int (nI j)]) (st := [.int (nI (mA T 6 n)), .ref (95)]) H.1 (m_at hl H ha ta ca ra hi4 hj4 ia ja) rfl rfl (Nat.le_of_ble_eq_true rfl)) ?_
  refine px (fun _ => pm_aload_n (pc := 143) d_Mo_element_143 rfl) ?_
  refine px (fun _ => pm_iload (pc := 144) d_Mo_element_144 rfl) ?_
  refine px (fun _ => pm_iload_n (pc := 146) d_Mo_element_146 rfl) ?_
  refine px (fun _ => pm_iload_n (pc := 147) d_Mo_element_147 rfl) ?_
  refine px (fun _ => k_Mo_element_148 (kc1 := 0) (ks1 := 0) (kc := 0) (ks := 0) (av := [.int (nI b), .int (nI i), .int (nI j)]) (st := [.double (g_ag S a i j), .int (nI (mA T 6 n)), .ref (95)]) H.1 (m_at hl H hb tb cb rb hi4 hj4 ib jb) rfl rfl (Nat.le_of_ble_eq_true rfl)) ?_
  refine px (fun _ => pm_aload_n (pc := 151) d_Mo_element_151 rfl) ?_
  refine px (fun _ => pm_getf fl_Mo_13 (pc := 152) d_Mo_element_152 H.1 rfl) ?_
  refine px (fun _ => pm_iload (pc := 155) d_Mo_element_155 rfl) ?_
  refine px (fun _ => pm_iald (j := a) (pc := 157) d_Mo_element_157 H.2.2.1 (rfl) (ha) (by decide)) ?_
  refine px (fun _ => pm_iconst (v := 1) (pc := 158) d_Mo_element_158 rfl) ?_
  refine pxn (fun _ => pm_icmp_ne (pc := 159) (tgt := 166) d_Mo_element_159 (by decide)) (fun c_1 => ?_) (fun c_1 => absurd c_1 (by rw [ta.1]; exact fun q => hty ((nI_eq (a := gT S a 0) (b := 1) (by omega) (by omega)).mp q)))
  refine px (fun _ => pm_iconst (v := 0) (pc := 166) d_Mo_element_166 rfl) ?_
  rw [hop]
  refine px (fun _ => k_Mo_element_167 (kc1 := 0) (ks1 := 0) (kc := 0) (ks := 0) (av := [.int (2), .double (g_ag S a i j), .double (g_ag S b i j), .int (0)]) (st := []) H.1 (m_plain2f (S := S) hl H hnn) rfl rfl (Nat.le_of_ble_eq_true rfl)) ?_
  exact pxr (pm_dret (pc := 170) d_Mo_element_170 rfl) (rfl)
set_option maxHeartbeats 1000000 in
set_option maxRecDepth 20000 in
theorem e_3i {l : Launch} {G : pm_G} {fi : Bool} {h : pm_H} {S : gS} {T : mS} {n a b i j : Nat} (hl : l.stackTraces = false) (H : mH T h) (hn : n < 14) (hop : mA T 6 n = 3) (hi4 : i < 4) (hj4 : j < 4) (ea : mQ T 12 (n * 3) = nI a) (ha : a < 20) (ta : mTb S T a) (ca : mCl S T a) (ra : g_rng S a) (eb : mQ T 12 (n * 3 + 1) = nI b) (hb : b < 20) (tb : mTb S T b) (cb : mCl S T b) (rb : g_rng S b) (ia : gT S a 1 = 1 ∨ i < gT S a 1) (ja : gT S a 2 = 1 ∨ j < gT S a 2) (ib : gT S b 1 = 1 ∨ i < gT S b 1) (jb : gT S b 2 = 1 ∨ j < gT S b 2) (hty : gT S a 0 = 1) (hz : ¬ FP.d2i (g_ag S b i j) = 0) : pm_En l G fi fi 0 0 M_Mo_element [.ref (95), .int (nI n), .int (nI i), .int (nI j)] h (.inl (some (.double (FP.i2d (g_dv (FP.d2i (g_ag S a i j)) (FP.d2i (g_ag S b i j)))))), h) := by
  refine pm_Cn.eq (pm_Cn.of hl (by decide) (Nat.le_of_ble_eq_true rfl) ?_)
  obtain ⟨r1, r2, r3, r4, r5⟩ := id ra
  obtain ⟨s1, s2, s3, s4, s5⟩ := id rb
  refine px (fun _ => pm_aload_n (pc := 0) d_Mo_element_0 rfl) ?_
  refine px (fun _ => pm_getf fl_Mo_29 (pc := 1) d_Mo_element_1 H.1 rfl) ?_
  refine px (fun _ => pm_iload_n (pc := 4) d_Mo_element_4 rfl) ?_
  refine px (fun _ => pm_iald (j := n) (pc := 5) d_Mo_element_5 H.2.2.2.2.2.2.2.1 (rfl) (hn) (by decide)) ?_
  refine px (fun _ => pm_istore (lv' := [(4, .int (nI (mA T 6 n))), (0, .ref (95)), (1, .int (nI n)), (2, .int (nI i)), (3, .int (nI j))]) (pc := 6) d_Mo_element_6 (by decide) rfl) ?_
  refine px (fun _ => pm_aload_n (pc := 8) d_Mo_element_8 rfl) ?_
  refine px (fun _ => pm_getf fl_Mo_47 (pc := 9) d_Mo_element_9 H.1 rfl) ?_
  refine px (fun _ => pm_iload_n (pc := 12) d_Mo_element_12 rfl) ?_
  refine px (fun _ => pm_iconst (v := 3) (pc := 13) d_Mo_element_13 rfl) ?_
  refine px (fun _ => pm_imulN (a := n) (b := 3) (pc := 14) d_Mo_element_14) ?_
  refine px (fun _ => pm_iald (j := n * 3) (pc := 15) d_Mo_element_15 H.2.2.2.2.2.2.2.2.2.2.2.2.2.1 (rfl) (by omega) (by decide)) ?_
  rw [ea]
  refine px (fun _ => pm_istore (lv' := [(5, .int (nI a)), (4, .int (nI (mA T 6 n))), (0, .ref (95)), (1, .int (nI n)), (2, .int (nI i)), (3, .int (nI j))]) (pc := 16) d_Mo_element_16 (by decide) rfl) ?_
  refine px (fun _ => pm_aload_n (pc := 18) d_Mo_element_18 rfl) ?_
  refine px (fun _ => pm_getf fl_Mo_47 (pc := 19) d_Mo_element_19 H.1 rfl) ?_
  refine px (fun _ => pm_iload_n (pc := 22) d_Mo_element_22 rfl) ?_
  refine px (fun _ => pm_iconst (v := 3) (pc := 23) d_Mo_element_23 rfl) ?_
  refine px (fun _ => pm_imulN (a := n) (b := 3) (pc := 24) d_Mo_element_24) ?_
  refine px (fun _ => pm_iconst (v := 1) (pc := 25) d_Mo_element_25 rfl) ?_
  refine px (fun _ => pm_iaddN (a := (n * 3)) (b := 1) (pc := 26) d_Mo_element_26) ?_
  refine px (fun _ => pm_iald (j := n * 3 + 1) (pc := 27) d_Mo_element_27 H.2.2.2.2.2.2.2.2.2.2.2.2.2.1 (rfl) (by omega) (by decide)) ?_
  rw [eb]
  refine px (fun _ => pm_istore (lv' := [(6, .int (nI b)), (5, .int (nI a)), (4, .int (nI (mA T 6 n))), (0, .ref (95)), (1, .int (nI n)), (2, .int (nI i)), (3, .int (nI j))]) (pc := 28) d_Mo_element_28 (by decide) rfl) ?_
  refine px (fun _ => pm_aload_n (pc := 30) d_Mo_element_30 rfl) ?_
  refine px (fun _ => pm_getf fl_Mo_47 (pc := 31) d_Mo_element_31 H.1 rfl) ?_
  refine px (fun _ => pm_iload_n (pc := 34) d_Mo_element_34 rfl) ?_
  refine px (fun _ => pm_iconst (v := 3) (pc := 35) d_Mo_element_35 rfl) ?_
  refine px (fun _ => pm_imulN (a := n) (b := 3) (pc := 36) d_Mo_element_36) ?_
  refine px (fun _ => pm_iconst (v := 2) (pc := 37) d_Mo_element_37 rfl) ?_
  refine px (fun _ => pm_iaddN (a := (n * 3)) (b := 2) (pc := 38) d_Mo_element_38) ?_
  refine px (fun _ => pm_iald (j := n * 3 + 2) (pc := 39) d_Mo_element_39 H.2.2.2.2.2.2.2.2.2.2.2.2.2.1 (rfl) (by omega) (by decide)) ?_
  refine px (fun _ => pm_istore (lv' := [(7, .int ((mQ T 12) (n * 3 + 2))), (6, .int (nI b)), (5, .int (nI a)), (4, .int (nI (mA T 6 n))), (0, .ref (95)), (1, .int (nI n)), (2, .int (nI i)), (3, .int (nI j))]) (pc := 40) d_Mo_element_40 (by decide) rfl) ?_
  refine px (fun _ => pm_iload (pc := 42) d_Mo_element_42 rfl) ?_
  have tx_44 : (nI (mA T 6 n) : Int32).toInt = 3 := by rw [hop]; rfl
  refine px (fun _ => pm_tabIn (off := 88) (tgt := 132) (pc := 44) d_Mo_element_44 (by rw [tx_44]; decide) (by rw [tx_44]; decide) (by rw [tx_44]; rfl) (by decide)) ?_
  refine px (fun _ => pm_aload_n (pc := 132) d_Mo_element_132 rfl) ?_
  refine px (fun _ => pm_iload (pc := 133) d_Mo_element_133 rfl) ?_
  refine px (fun _ => pm_aload_n (pc := 135) d_Mo_element_135 rfl) ?_
  refine px (fun _ => pm_iload (pc := 136) d_Mo_element_136 rfl) ?_
  refine px (fun _ => pm_iload_n (pc := 138) d_Mo_element_138 rfl) ?_
  refine px (fun _ => pm_iload_n (pc := 139) d_Mo_element_139 rfl) ?_
  refine px (fun _ => k_Mo_element_140 (kc1 := 0) (ks1 := 0) (kc := 0) (ks := 0) (av := [.int (nI a), .int (nI i), .int (nI j)]) (st := [.int (nI (mA T 6 n)), .ref (95)]) H.1 (m_at hl H ha ta ca ra hi4 hj4 ia ja) rfl rfl (Nat.le_of_ble_eq_true rfl)) ?_
  refine px (fun _ => pm_aload_n (pc := 143) d_Mo_element_143 rfl) ?_
  refine px (fun _ => pm_iload (pc := 144) d_Mo_element_144 rfl) ?_
  refine px (fun _ => pm_iload_n (pc := 146) d_Mo_element_146 rfl) ?_
  refine px (fun _ => pm_iload_n (pc := 147) d_Mo_element_147 rfl) ?_
  refine px (fun _ => k_Mo_element_148 (kc1 := 0) (ks1 := 0) (kc := 0) (ks := 0) (av := [.int (nI b), .int (nI i), .int (nI j)]) (st := [.double (g_ag S a i j), .int (nI (mA T 6 n)), .ref (95)]) H.1 (m_at hl H hb tb cb rb hi4 hj4 ib jb) rfl rfl (Nat.le_of_ble_eq_true rfl)) ?_
  refine px (fun _ => pm_aload_n (pc := 151) d_Mo_element_151 rfl) ?_
  refine px (fun _ => pm_getf fl_Mo_13 (pc := 152) d_Mo_element_152 H.1 rfl) ?_
  refine px (fun _ => pm_iload (pc := 155) d_Mo_element_155 rfl) ?_
  refine px (fun _ => pm_iald (j := a) (pc := 157) d_Mo_element_157 H.2.2.1 (rfl) (ha) (by decide)) ?_
  refine px (fun _ => pm_iconst (v := 1) (pc := 158) d_Mo_element_158 rfl) ?_
  refine pxn (fun _ => pm_icmp_ne (pc := 159) (tgt := 166) d_Mo_element_159 (by decide)) (fun c_1 => absurd (by rw [ta.1, hty]; rfl) c_1) (fun c_1 => ?_)
  refine px (fun _ => pm_iconst (v := 1) (pc := 162) d_Mo_element_162 rfl) ?_
  refine px (fun _ => pm_goto (tgt := 167) (pc := 163) d_Mo_element_163 (by decide)) ?_
  rw [hop]
  refine px (fun _ => k_Mo_element_167 (kc1 := 0) (ks1 := 0) (kc := 0) (ks := 0) (av := [.int (3), .double (g_ag S a i j), .double (g_ag S b i j), .int (1)]) (st := []) H.1 (m_plain3i (S := S) hl H hz) rfl rfl (Nat.le_of_ble_eq_true rfl)) ?_
  exact pxr (pm_dret (pc := 170) d_Mo_element_170 rfl) (rfl)
set_option maxHeartbeats 1000000 in
set_option maxRecDepth 20000 in
theorem e_3f {l : Launch} {G : pm_G} {fi : Bool} {h : pm_H} {S : gS} {T : mS} {n a b i j : Nat} (hl : l.stackTraces = false) (H : mH T h) (hn : n < 14) (hop : mA T 6 n = 3) (hi4 : i < 4) (hj4 : j < 4) (ea : mQ T 12 (n * 3) = nI a) (ha : a < 20) (ta : mTb S T a) (ca : mCl S T a) (ra : g_rng S a) (eb : mQ T 12 (n * 3 + 1) = nI b) (hb : b < 20) (tb : mTb S T b) (cb : mCl S T b) (rb : g_rng S b) (ia : gT S a 1 = 1 ∨ i < gT S a 1) (ja : gT S a 2 = 1 ∨ j < gT S a 2) (ib : gT S b 1 = 1 ∨ i < gT S b 1) (jb : gT S b 2 = 1 ∨ j < gT S b 2) (hty : ¬ gT S a 0 = 1) (hz : ¬ fEq (g_ag S b i j) FP.dconst0) (hnn : vf_n64 (FP.ddiv (g_ag S a i j) (g_ag S b i j))) : pm_En l G fi fi 0 0 M_Mo_element [.ref (95), .int (nI n), .int (nI i), .int (nI j)] h (.inl (some (.double (FP.ddiv (g_ag S a i j) (g_ag S b i j)))), h) := by
  refine pm_Cn.eq (pm_Cn.of hl (by decide) (Nat.le_of_ble_eq_true rfl) ?_)
  obtain ⟨r1, r2, r3, r4, r5⟩ := id ra
  obtain ⟨s1, s2, s3, s4, s5⟩ := id rb
  refine px (fun _ => pm_aload_n (pc := 0) d_Mo_element_0 rfl) ?_
  refine px (fun _ => pm_getf fl_Mo_29 (pc := 1) d_Mo_element_1 H.1 rfl) ?_
  refine px (fun _ => pm_iload_n (pc := 4) d_Mo_element_4 rfl) ?_
  refine px (fun _ => pm_iald (j := n) (pc := 5) d_Mo_element_5 H.2.2.2.2.2.2.2.1 (rfl) (hn) (by decide)) ?_
  refine px (fun _ => pm_istore (lv' := [(4, .int (nI (mA T 6 n))), (0, .ref (95)), (1, .int (nI n)), (2, .int (nI i)), (3, .int (nI j))]) (pc := 6) d_Mo_element_6 (by decide) rfl) ?_
  refine px (fun _ => pm_aload_n (pc := 8) d_Mo_element_8 rfl) ?_
  refine px (fun _ => pm_getf fl_Mo_47 (pc := 9) d_Mo_element_9 H.1 rfl) ?_
  refine px (fun _ => pm_iload_n (pc := 12) d_Mo_element_12 rfl) ?_
  refine px (fun _ => pm_iconst (v := 3) (pc := 13) d_Mo_element_13 rfl) ?_
  refine px (fun _ => pm_imulN (a := n) (b := 3) (pc := 14) d_Mo_element_14) ?_
  refine px (fun _ => pm_iald (j := n * 3) (pc := 15) d_Mo_element_15 H.2.2.2.2.2.2.2.2.2.2.2.2.2.1 (rfl) (by omega) (by decide)) ?_
  rw [ea]
  refine px (fun _ => pm_istore (lv' := [(5, .int (nI a)), (4, .int (nI (mA T 6 n))), (0, .ref (95)), (1, .int (nI n)), (2, .int (nI i)), (3, .int (nI j))]) (pc := 16) d_Mo_element_16 (by decide) rfl) ?_
  refine px (fun _ => pm_aload_n (pc := 18) d_Mo_element_18 rfl) ?_
  refine px (fun _ => pm_getf fl_Mo_47 (pc := 19) d_Mo_element_19 H.1 rfl) ?_
  refine px (fun _ => pm_iload_n (pc := 22) d_Mo_element_22 rfl) ?_
  refine px (fun _ => pm_iconst (v := 3) (pc := 23) d_Mo_element_23 rfl) ?_
  refine px (fun _ => pm_imulN (a := n) (b := 3) (pc := 24) d_Mo_element_24) ?_
  refine px (fun _ => pm_iconst (v := 1) (pc := 25) d_Mo_element_25 rfl) ?_
  refine px (fun _ => pm_iaddN (a := (n * 3)) (b := 1) (pc := 26) d_Mo_element_26) ?_
  refine px (fun _ => pm_iald (j := n * 3 + 1) (pc := 27) d_Mo_element_27 H.2.2.2.2.2.2.2.2.2.2.2.2.2.1 (rfl) (by omega) (by decide)) ?_
  rw [eb]
  refine px (fun _ => pm_istore (lv' := [(6, .int (nI b)), (5, .int (nI a)), (4, .int (nI (mA T 6 n))), (0, .ref (95)), (1, .int (nI n)), (2, .int (nI i)), (3, .int (nI j))]) (pc := 28) d_Mo_element_28 (by decide) rfl) ?_
  refine px (fun _ => pm_aload_n (pc := 30) d_Mo_element_30 rfl) ?_
  refine px (fun _ => pm_getf fl_Mo_47 (pc := 31) d_Mo_element_31 H.1 rfl) ?_
  refine px (fun _ => pm_iload_n (pc := 34) d_Mo_element_34 rfl) ?_
  refine px (fun _ => pm_iconst (v := 3) (pc := 35) d_Mo_element_35 rfl) ?_
  refine px (fun _ => pm_imulN (a := n) (b := 3) (pc := 36) d_Mo_element_36) ?_
  refine px (fun _ => pm_iconst (v := 2) (pc := 37) d_Mo_element_37 rfl) ?_
  refine px (fun _ => pm_iaddN (a := (n * 3)) (b := 2) (pc := 38) d_Mo_element_38) ?_
  refine px (fun _ => pm_iald (j := n * 3 + 2) (pc := 39) d_Mo_element_39 H.2.2.2.2.2.2.2.2.2.2.2.2.2.1 (rfl) (by omega) (by decide)) ?_
  refine px (fun _ => pm_istore (lv' := [(7, .int ((mQ T 12) (n * 3 + 2))), (6, .int (nI b)), (5, .int (nI a)), (4, .int (nI (mA T 6 n))), (0, .ref (95)), (1, .int (nI n)), (2, .int (nI i)), (3, .int (nI j))]) (pc := 40) d_Mo_element_40 (by decide) rfl) ?_
  refine px (fun _ => pm_iload (pc := 42) d_Mo_element_42 rfl) ?_
  have tx_44 : (nI (mA T 6 n) : Int32).toInt = 3 := by rw [hop]; rfl
  refine px (fun _ => pm_tabIn (off := 88) (tgt := 132) (pc := 44) d_Mo_element_44 (by rw [tx_44]; decide) (by rw [tx_44]; decide) (by rw [tx_44]; rfl) (by decide)) ?_
  refine px (fun _ => pm_aload_n (pc := 132) d_Mo_element_132 rfl) ?_
  refine px (fun _ => pm_iload (pc := 133) d_Mo_element_133 rfl) ?_
  refine px (fun _ => pm_aload_n (pc := 135) d_Mo_element_135 rfl) ?_
  refine px (fun _ => pm_iload (pc := 136) d_Mo_element_136 rfl) ?_
  refine px (fun _ => pm_iload_n (pc := 138) d_Mo_element_138 rfl) ?_
  refine px (fun _ => pm_iload_n (pc := 139) d_Mo_element_139 rfl) ?_
  refine px (fun _ => k_Mo_element_140 (kc1 := 0) (ks1 := 0) (kc := 0) (ks := 0) (av := [.int (nI a), .int (nI i), .int (nI j)]) (st := [.int (nI (mA T 6 n)), .ref (95)]) H.1 (m_at hl H ha ta ca ra hi4 hj4 ia ja) rfl rfl (Nat.le_of_ble_eq_true rfl)) ?_
  refine px (fun _ => pm_aload_n (pc := 143) d_Mo_element_143 rfl) ?_
  refine px (fun _ => pm_iload (pc := 144) d_Mo_element_144 rfl) ?_
  refine px (fun _ => pm_iload_n (pc := 146) d_Mo_element_146 rfl) ?_
  refine px (fun _ => pm_iload_n (pc := 147) d_Mo_element_147 rfl) ?_
  refine px (fun _ => k_Mo_element_148 (kc1 := 0) (ks1 := 0) (kc := 0) (ks := 0) (av := [.int (nI b), .int (nI i), .int (nI j)]) (st := [.double (g_ag S a i j), .int (nI (mA T 6 n)), .ref (95)]) H.1 (m_at hl H hb tb cb rb hi4 hj4 ib jb) rfl rfl (Nat.le_of_ble_eq_true rfl)) ?_
  refine px (fun _ => pm_aload_n (pc := 151) d_Mo_element_151 rfl) ?_
  refine px (fun _ => pm_getf fl_Mo_13 (pc := 152) d_Mo_element_152 H.1 rfl) ?_
  refine px (fun _ => pm_iload (pc := 155) d_Mo_element_155 rfl) ?_
  refine px (fun _ => pm_iald (j := a) (pc := 157) d_Mo_element_157 H.2.2.1 (rfl) (ha) (by decide)) ?_
  refine px (fun _ => pm_iconst (v := 1) (pc := 158) d_Mo_element_158 rfl) ?_
  refine pxn (fun _ => pm_icmp_ne (pc := 159) (tgt := 166) d_Mo_element_159 (by decide)) (fun c_1 => ?_) (fun c_1 => absurd c_1 (by rw [ta.1]; exact fun q => hty ((nI_eq (a := gT S a 0) (b := 1) (by omega) (by omega)).mp q)))
  refine px (fun _ => pm_iconst (v := 0) (pc := 166) d_Mo_element_166 rfl) ?_
  rw [hop]
  refine px (fun _ => k_Mo_element_167 (kc1 := 0) (ks1 := 0) (kc := 0) (ks := 0) (av := [.int (3), .double (g_ag S a i j), .double (g_ag S b i j), .int (0)]) (st := []) H.1 (m_plain3f (S := S) hl H hz hnn) rfl rfl (Nat.le_of_ble_eq_true rfl)) ?_
  exact pxr (pm_dret (pc := 170) d_Mo_element_170 rfl) (rfl)
set_option maxHeartbeats 1000000 in
set_option maxRecDepth 20000 in
theorem e_3iz {l : Launch} {G : pm_G} {fi : Bool} {h : pm_H} {S : gS} {T : mS} {n a b i j : Nat} (hl : l.stackTraces = false) (H : mH T h) (hn : n < 14) (hop : mA T 6 n = 3) (hi4 : i < 4) (hj4 : j < 4) (ea : mQ T 12 (n * 3) = nI a) (ha : a < 20) (ta : mTb S T a) (ca : mCl S T a) (ra : g_rng S a) (eb : mQ T 12 (n * 3 + 1) = nI b) (hb : b < 20) (tb : mTb S T b) (cb : mCl S T b) (rb : g_rng S b) (ia : gT S a 1 = 1 ∨ i < gT S a 1) (ja : gT S a 2 = 1 ∨ j < gT S a 2) (ib : gT S b 1 = 1 ∨ i < gT S b 1) (jb : gT S b 2 = 1 ∨ j < gT S b 2) (hty : gT S a 0 = 1) (hz : FP.d2i (g_ag S b i j) = 0) (h4 : mG T 4 ≤ 4) : pm_Cn l G fi fi 0 0 M_Mo_element [.ref (95), .int (nI n), .int (nI i), .int (nI j)] h (m_P (some (.double FP.dconst0)) (m_tb T 3) h) := by
  refine pm_Cn.of hl (by decide) (Nat.le_of_ble_eq_true rfl) ?_
  obtain ⟨r1, r2, r3, r4, r5⟩ := id ra
  obtain ⟨s1, s2, s3, s4, s5⟩ := id rb
  refine px (fun _ => pm_aload_n (pc := 0) d_Mo_element_0 rfl) ?_
  refine px (fun _ => pm_getf fl_Mo_29 (pc := 1) d_Mo_element_1 H.1 rfl) ?_
  refine px (fun _ => pm_iload_n (pc := 4) d_Mo_element_4 rfl) ?_
  refine px (fun _ => pm_iald (j := n) (pc := 5) d_Mo_element_5 H.2.2.2.2.2.2.2.1 (rfl) (hn) (by decide)) ?_
  refine px (fun _ => pm_istore (lv' := [(4, .int (nI (mA T 6 n))), (0, .ref (95)), (1, .int (nI n)), (2, .int (nI i)), (3, .int (nI j))]) (pc := 6) d_Mo_element_6 (by decide) rfl) ?_
  refine px (fun _ => pm_aload_n (pc := 8) d_Mo_element_8 rfl) ?_
  refine px (fun _ => pm_getf fl_Mo_47 (pc := 9) d_Mo_element_9 H.1 rfl) ?_
  refine px (fun _ => pm_iload_n (pc := 12) d_Mo_element_12 rfl) ?_
  refine px (fun _ => pm_iconst (v := 3) (pc := 13) d_Mo_element_13 rfl) ?_
  refine px (fun _ => pm_imulN (a := n) (b := 3) (pc := 14) d_Mo_element_14) ?_
  refine px (fun _ => pm_iald (j := n * 3) (pc := 15) d_Mo_element_15 H.2.2.2.2.2.2.2.2.2.2.2.2.2.1 (rfl) (by omega) (by decide)) ?_
  rw [ea]
  refine px (fun _ => pm_istore (lv' := [(5, .int (nI a)), (4, .int (nI (mA T 6 n))), (0, .ref (95)), (1, .int (nI n)), (2, .int (nI i)), (3, .int (nI j))]) (pc := 16) d_Mo_element_16 (by decide) rfl) ?_
  refine px (fun _ => pm_aload_n (pc := 18) d_Mo_element_18 rfl) ?_
  refine px (fun _ => pm_getf fl_Mo_47 (pc := 19) d_Mo_element_19 H.1 rfl) ?_
  refine px (fun _ => pm_iload_n (pc := 22) d_Mo_element_22 rfl) ?_
  refine px (fun _ => pm_iconst (v := 3) (pc := 23) d_Mo_element_23 rfl) ?_
  refine px (fun _ => pm_imulN (a := n) (b := 3) (pc := 24) d_Mo_element_24) ?_
  refine px (fun _ => pm_iconst (v := 1) (pc := 25) d_Mo_element_25 rfl) ?_
  refine px (fun _ => pm_iaddN (a := (n * 3)) (b := 1) (pc := 26) d_Mo_element_26) ?_
  refine px (fun _ => pm_iald (j := n * 3 + 1) (pc := 27) d_Mo_element_27 H.2.2.2.2.2.2.2.2.2.2.2.2.2.1 (rfl) (by omega) (by decide)) ?_
  rw [eb]
  refine px (fun _ => pm_istore (lv' := [(6, .int (nI b)), (5, .int (nI a)), (4, .int (nI (mA T 6 n))), (0, .ref (95)), (1, .int (nI n)), (2, .int (nI i)), (3, .int (nI j))]) (pc := 28) d_Mo_element_28 (by decide) rfl) ?_
  refine px (fun _ => pm_aload_n (pc := 30) d_Mo_element_30 rfl) ?_
  refine px (fun _ => pm_getf fl_Mo_47 (pc := 31) d_Mo_element_31 H.1 rfl) ?_
  refine px (fun _ => pm_iload_n (pc := 34) d_Mo_element_34 rfl) ?_
  refine px (fun _ => pm_iconst (v := 3) (pc := 35) d_Mo_element_35 rfl) ?_
  refine px (fun _ => pm_imulN (a := n) (b := 3) (pc := 36) d_Mo_element_36) ?_
  refine px (fun _ => pm_iconst (v := 2) (pc := 37) d_Mo_element_37 rfl) ?_
  refine px (fun _ => pm_iaddN (a := (n * 3)) (b := 2) (pc := 38) d_Mo_element_38) ?_
  refine px (fun _ => pm_iald (j := n * 3 + 2) (pc := 39) d_Mo_element_39 H.2.2.2.2.2.2.2.2.2.2.2.2.2.1 (rfl) (by omega) (by decide)) ?_
  refine px (fun _ => pm_istore (lv' := [(7, .int ((mQ T 12) (n * 3 + 2))), (6, .int (nI b)), (5, .int (nI a)), (4, .int (nI (mA T 6 n))), (0, .ref (95)), (1, .int (nI n)), (2, .int (nI i)), (3, .int (nI j))]) (pc := 40) d_Mo_element_40 (by decide) rfl) ?_
  refine px (fun _ => pm_iload (pc := 42) d_Mo_element_42 rfl) ?_
  have tx_44 : (nI (mA T 6 n) : Int32).toInt = 3 := by rw [hop]; rfl
  refine px (fun _ => pm_tabIn (off := 88) (tgt := 132) (pc := 44) d_Mo_element_44 (by rw [tx_44]; decide) (by rw [tx_44]; decide) (by rw [tx_44]; rfl) (by decide)) ?_
  refine px (fun _ => pm_aload_n (pc := 132) d_Mo_element_132 rfl) ?_
  refine px (fun _ => pm_iload (pc := 133) d_Mo_element_133 rfl) ?_
  refine px (fun _ => pm_aload_n (pc := 135) d_Mo_element_135 rfl) ?_
  refine px (fun _ => pm_iload (pc := 136) d_Mo_element_136 rfl) ?_
  refine px (fun _ => pm_iload_n (pc := 138) d_Mo_element_138 rfl) ?_
  refine px (fun _ => pm_iload_n (pc := 139) d_Mo_element_139 rfl) ?_
  refine px (fun _ => k_Mo_element_140 (kc1 := 0) (ks1 := 0) (kc := 0) (ks := 0) (av := [.int (nI a), .int (nI i), .int (nI j)]) (st := [.int (nI (mA T 6 n)), .ref (95)]) H.1 (m_at hl H ha ta ca ra hi4 hj4 ia ja) rfl rfl (Nat.le_of_ble_eq_true rfl)) ?_
  refine px (fun _ => pm_aload_n (pc := 143) d_Mo_element_143 rfl) ?_
  refine px (fun _ => pm_iload (pc := 144) d_Mo_element_144 rfl) ?_
  refine px (fun _ => pm_iload_n (pc := 146) d_Mo_element_146 rfl) ?_
  refine px (fun _ => pm_iload_n (pc := 147) d_Mo_element_147 rfl) ?_
  refine px (fun _ => k_Mo_element_148 (kc1 := 0) (ks1 := 0) (kc := 0) (ks := 0) (av := [.int (nI b), .int (nI i), .int (nI j)]) (st := [.double (g_ag S a i j), .int (nI (mA T 6 n)), .ref (95)]) H.1 (m_at hl H hb tb cb rb hi4 hj4 ib jb) rfl rfl (Nat.le_of_ble_eq_true rfl)) ?_
  refine px (fun _ => pm_aload_n (pc := 151) d_Mo_element_151 rfl) ?_
  refine px (fun _ => pm_getf fl_Mo_13 (pc := 152) d_Mo_element_152 H.1 rfl) ?_
  refine px (fun _ => pm_iload (pc := 155) d_Mo_element_155 rfl) ?_
  refine px (fun _ => pm_iald (j := a) (pc := 157) d_Mo_element_157 H.2.2.1 (rfl) (ha) (by decide)) ?_
  refine px (fun _ => pm_iconst (v := 1) (pc := 158) d_Mo_element_158 rfl) ?_
  refine pxn (fun _ => pm_icmp_ne (pc := 159) (tgt := 166) d_Mo_element_159 (by decide)) (fun c_1 => absurd (by rw [ta.1, hty]; rfl) c_1) (fun c_1 => ?_)
  refine px (fun _ => pm_iconst (v := 1) (pc := 162) d_Mo_element_162 rfl) ?_
  refine px (fun _ => pm_goto (tgt := 167) (pc := 163) d_Mo_element_163 (by decide)) ?_
  rw [hop]
  obtain ⟨⟨o2, h2⟩, ⟨e2, H2, F2⟩, en2⟩ := m_plain3iz (l := l) (G := G) (fi := fi) (T := T) hl H hz h4
  dsimp only at e2 H2 F2
  subst e2
  refine px (fun _ => k_Mo_element_167 (kc1 := 0) (ks1 := 0) (kc := 0) (ks := 0) (av := [.int (3), .double (g_ag S a i j), .double (g_ag S b i j), .int (1)]) (st := []) H.1 (en2) rfl rfl (Nat.le_of_ble_eq_true rfl)) ?_
  exact pxr (pm_dret (pc := 170) d_Mo_element_170 rfl) ⟨rfl, H2, F2⟩
set_option maxHeartbeats 1000000 in
set_option maxRecDepth 20000 in
theorem e_3fz {l : Launch} {G : pm_G} {fi : Bool} {h : pm_H} {S : gS} {T : mS} {n a b i j : Nat} (hl : l.stackTraces = false) (H : mH T h) (hn : n < 14) (hop : mA T 6 n = 3) (hi4 : i < 4) (hj4 : j < 4) (ea : mQ T 12 (n * 3) = nI a) (ha : a < 20) (ta : mTb S T a) (ca : mCl S T a) (ra : g_rng S a) (eb : mQ T 12 (n * 3 + 1) = nI b) (hb : b < 20) (tb : mTb S T b) (cb : mCl S T b) (rb : g_rng S b) (ia : gT S a 1 = 1 ∨ i < gT S a 1) (ja : gT S a 2 = 1 ∨ j < gT S a 2) (ib : gT S b 1 = 1 ∨ i < gT S b 1) (jb : gT S b 2 = 1 ∨ j < gT S b 2) (hty : ¬ gT S a 0 = 1) (hz : fEq (g_ag S b i j) FP.dconst0) (h4 : mG T 4 ≤ 4) : pm_Cn l G fi fi 0 0 M_Mo_element [.ref (95), .int (nI n), .int (nI i), .int (nI j)] h (m_P (some (.double FP.dconst0)) (m_tb T 3) h) := by
  refine pm_Cn.of hl (by decide) (Nat.le_of_ble_eq_true rfl) ?_
  obtain ⟨r1, r2, r3, r4, r5⟩ := id ra
  obtain ⟨s1, s2, s3, s4, s5⟩ := id rb
  refine px (fun _ => pm_aload_n (pc := 0) d_Mo_element_0 rfl) ?_
  refine px (fun _ => pm_getf fl_Mo_29 (pc := 1) d_Mo_element_1 H.1 rfl) ?_
  refine px (fun _ => pm_iload_n (pc := 4) d_Mo_element_4 rfl) ?_
  refine px (fun _ => pm_iald (j := n) (pc := 5) d_Mo_element_5 H.2.2.2.2.2.2.2.1 (rfl) (hn) (by decide)) ?_
  refine px (fun _ => pm_istore (lv' := [(4, .int (nI (mA T 6 n))), (0, .ref (95)), (1, .int (nI n)), (2, .int (nI i)), (3, .int (nI j))]) (pc := 6) d_Mo_element_6 (by decide) rfl) ?_
  refine px (fun _ => pm_aload_n (pc := 8) d_Mo_element_8 rfl) ?_
  refine px (fun _ => pm_getf fl_Mo_47 (pc := 9) d_Mo_element_9 H.1 rfl) ?_
  refine px (fun _ => pm_iload_n (pc := 12) d_Mo_element_12 rfl) ?_
  refine px (fun _ => pm_iconst (v := 3) (pc := 13) d_Mo_element_13 rfl) ?_
  refine px (fun _ => pm_imulN (a := n) (b := 3) (pc := 14) d_Mo_element_14) ?_
  refine px (fun _ => pm_iald (j := n * 3) (pc := 15) d_Mo_element_15 H.2.2.2.2.2.2.2.2.2.2.2.2.2.1 (rfl) (by omega) (by decide)) ?_
  rw [ea]
  refine px (fun _ => pm_istore (lv' := [(5, .int (nI a)), (4, .int (nI (mA T 6 n))), (0, .ref (95)), (1, .int (nI n)), (2, .int (nI i)), (3, .int (nI j))]) (pc := 16) d_Mo_element_16 (by decide) rfl) ?_
  refine px (fun _ => pm_aload_n (pc := 18) d_Mo_element_18 rfl) ?_
  refine px (fun _ => pm_getf fl_Mo_47 (pc := 19) d_Mo_element_19 H.1 rfl) ?_
  refine px (fun _ => pm_iload_n (pc := 22) d_Mo_element_22 rfl) ?_
  refine px (fun _ => pm_iconst (v := 3) (pc := 23) d_Mo_element_23 rfl) ?_
  refine px (fun _ => pm_imulN (a := n) (b := 3) (pc := 24) d_Mo_element_24) ?_
  refine px (fun _ => pm_iconst (v := 1) (pc := 25) d_Mo_element_25 rfl) ?_
  refine px (fun _ => pm_iaddN (a := (n * 3)) (b := 1) (pc := 26) d_Mo_element_26) ?_
  refine px (fun _ => pm_iald (j := n * 3 + 1) (pc := 27) d_Mo_element_27 H.2.2.2.2.2.2.2.2.2.2.2.2.2.1 (rfl) (by omega) (by decide)) ?_
  rw [eb]
  refine px (fun _ => pm_istore (lv' := [(6, .int (nI b)), (5, .int (nI a)), (4, .int (nI (mA T 6 n))), (0, .ref (95)), (1, .int (nI n)), (2, .int (nI i)), (3, .int (nI j))]) (pc := 28) d_Mo_element_28 (by decide) rfl) ?_
  refine px (fun _ => pm_aload_n (pc := 30) d_Mo_element_30 rfl) ?_
  refine px (fun _ => pm_getf fl_Mo_47 (pc := 31) d_Mo_element_31 H.1 rfl) ?_
  refine px (fun _ => pm_iload_n (pc := 34) d_Mo_element_34 rfl) ?_
  refine px (fun _ => pm_iconst (v := 3) (pc := 35) d_Mo_element_35 rfl) ?_
  refine px (fun _ => pm_imulN (a := n) (b := 3) (pc := 36) d_Mo_element_36) ?_
  refine px (fun _ => pm_iconst (v := 2) (pc := 37) d_Mo_element_37 rfl) ?_
  refine px (fun _ => pm_iaddN (a := (n * 3)) (b := 2) (pc := 38) d_Mo_element_38) ?_
  refine px (fun _ => pm_iald (j := n * 3 + 2) (pc := 39) d_Mo_element_39 H.2.2.2.2.2.2.2.2.2.2.2.2.2.1 (rfl) (by omega) (by decide)) ?_
  refine px (fun _ => pm_istore (lv' := [(7, .int ((mQ T 12) (n * 3 + 2))), (6, .int (nI b)), (5, .int (nI a)), (4, .int (nI (mA T 6 n))), (0, .ref (95)), (1, .int (nI n)), (2, .int (nI i)), (3, .int (nI j))]) (pc := 40) d_Mo_element_40 (by decide) rfl) ?_
  refine px (fun _ => pm_iload (pc := 42) d_Mo_element_42 rfl) ?_
  have tx_44 : (nI (mA T 6 n) : Int32).toInt = 3 := by rw [hop]; rfl
  refine px (fun _ => pm_tabIn (off := 88) (tgt := 132) (pc := 44) d_Mo_element_44 (by rw [tx_44]; decide) (by rw [tx_44]; decide) (by rw [tx_44]; rfl) (by decide)) ?_
  refine px (fun _ => pm_aload_n (pc := 132) d_Mo_element_132 rfl) ?_
  refine px (fun _ => pm_iload (pc := 133) d_Mo_element_133 rfl) ?_
  refine px (fun _ => pm_aload_n (pc := 135) d_Mo_element_135 rfl) ?_
  refine px (fun _ => pm_iload (pc := 136) d_Mo_element_136 rfl) ?_
  refine px (fun _ => pm_iload_n (pc := 138) d_Mo_element_138 rfl) ?_
  refine px (fun _ => pm_iload_n (pc := 139) d_Mo_element_139 rfl) ?_
  refine px (fun _ => k_Mo_element_140 (kc1 := 0) (ks1 := 0) (kc := 0) (ks := 0) (av := [.int (nI a), .int (nI i), .int (nI j)]) (st := [.int (nI (mA T 6 n)), .ref (95)]) H.1 (m_at hl H ha ta ca ra hi4 hj4 ia ja) rfl rfl (Nat.le_of_ble_eq_true rfl)) ?_
  refine px (fun _ => pm_aload_n (pc := 143) d_Mo_element_143 rfl) ?_
  refine px (fun _ => pm_iload (pc := 144) d_Mo_element_144 rfl) ?_
  refine px (fun _ => pm_iload_n (pc := 146) d_Mo_element_146 rfl) ?_
  refine px (fun _ => pm_iload_n (pc := 147) d_Mo_element_147 rfl) ?_
  refine px (fun _ => k_Mo_element_148 (kc1 := 0) (ks1 := 0) (kc := 0) (ks := 0) (av := [.int (nI b), .int (nI i), .int (nI j)]) (st := [.double (g_ag S a i j), .int (nI (mA T 6 n)), .ref (95)]) H.1 (m_at hl H hb tb cb rb hi4 hj4 ib jb) rfl rfl (Nat.le_of_ble_eq_true rfl)) ?_
  refine px (fun _ => pm_aload_n (pc := 151) d_Mo_element_151 rfl) ?_
  refine px (fun _ => pm_getf fl_Mo_13 (pc := 152) d_Mo_element_152 H.1 rfl) ?_
  refine px (fun _ => pm_iload (pc := 155) d_Mo_element_155 rfl) ?_
  refine px (fun _ => pm_iald (j := a) (pc := 157) d_Mo_element_157 H.2.2.1 (rfl) (ha) (by decide)) ?_
  refine px (fun _ => pm_iconst (v := 1) (pc := 158) d_Mo_element_158 rfl) ?_
  refine pxn (fun _ => pm_icmp_ne (pc := 159) (tgt := 166) d_Mo_element_159 (by decide)) (fun c_1 => ?_) (fun c_1 => absurd c_1 (by rw [ta.1]; exact fun q => hty ((nI_eq (a := gT S a 0) (b := 1) (by omega) (by omega)).mp q)))
  refine px (fun _ => pm_iconst (v := 0) (pc := 166) d_Mo_element_166 rfl) ?_
  rw [hop]
  obtain ⟨⟨o2, h2⟩, ⟨e2, H2, F2⟩, en2⟩ := m_plain3fz (l := l) (G := G) (fi := fi) (T := T) hl H hz h4
  dsimp only at e2 H2 F2
  subst e2
  refine px (fun _ => k_Mo_element_167 (kc1 := 0) (ks1 := 0) (kc := 0) (ks := 0) (av := [.int (3), .double (g_ag S a i j), .double (g_ag S b i j), .int (0)]) (st := []) H.1 (en2) rfl rfl (Nat.le_of_ble_eq_true rfl)) ?_
  exact pxr (pm_dret (pc := 170) d_Mo_element_170 rfl) ⟨rfl, H2, F2⟩
set_option maxHeartbeats 1000000 in
set_option maxRecDepth 20000 in
theorem e_4 {l : Launch} {G : pm_G} {fi : Bool} {h : pm_H} {S : gS} {T : mS} {n a b i j : Nat} (hl : l.stackTraces = false) (H : mH T h) (hn : n < 14) (hop : mA T 6 n = 4) (hi4 : i < 4) (hj4 : j < 4) (ea : mQ T 12 (n * 3) = nI a) (ha : a < 20) (ta : mTb S T a) (ca : mCl S T a) (ra : g_rng S a) (eb : mQ T 12 (n * 3 + 1) = nI b) (hb : b < 20) (tb : mTb S T b) (cb : mCl S T b) (rb : g_rng S b) (sh : gT S a 2 = gT S b 1) (hi : i < gT S a 1) (hj : j < gT S b 2) (hBa : ∀ k, k < gT S a 2 → gB (gC S a (i * 4 + k))) (hBb : ∀ k, k < gT S a 2 → gB (gC S b (k * 4 + j))) : pm_En l G fi fi 0 0 M_Mo_element [.ref (95), .int (nI n), .int (nI i), .int (nI j)] h (.inl (some (.double (g_dot (fun k => gC S a (i * 4 + k)) (fun k => gC S b (k * 4 + j)) (gT S a 2) 0 FP.dconst0))), h) := by
  refine pm_Cn.eq (pm_Cn.of hl (by decide) (Nat.le_of_ble_eq_true rfl) ?_)
  obtain ⟨r1, r2, r3, r4, r5⟩ := id ra
  obtain ⟨s1, s2, s3, s4, s5⟩ := id rb
  refine px (fun _ => pm_aload_n (pc := 0) d_Mo_element_0 rfl) ?_
  refine px (fun _ => pm_getf fl_Mo_29 (pc := 1) d_Mo_element_1 H.1 rfl) ?_
  refine px (fun _ => pm_iload_n (pc := 4) d_Mo_element_4 rfl) ?_
  refine px (fun _ => pm_iald (j := n) (pc := 5) d_Mo_element_5 H.2.2.2.2.2.2.2.1 (rfl) (hn) (by decide)) ?_
  refine px (fun _ => pm_istore (lv' := [(4, .int (nI (mA T 6 n))), (0, .ref (95)), (1, .int (nI n)), (2, .int (nI i)), (3, .int (nI j))]) (pc := 6) d_Mo_element_6 (by decide) rfl) ?_
  refine px (fun _ => pm_aload_n (pc := 8) d_Mo_element_8 rfl) ?_
  refine px (fun _ => pm_getf fl_Mo_47 (pc := 9) d_Mo_element_9 H.1 rfl) ?_
  refine px (fun _ => pm_iload_n (pc := 12) d_Mo_element_12 rfl) ?_
  refine px (fun _ => pm_iconst (v := 3) (pc := 13) d_Mo_element_13 rfl) ?_
  refine px (fun _ => pm_imulN (a := n) (b := 3) (pc := 14) d_Mo_element_14) ?_
  refine px (fun _ => pm_iald (j := n * 3) (pc := 15) d_Mo_element_15 H.2.2.2.2.2.2.2.2.2.2.2.2.2.1 (rfl) (by omega) (by decide)) ?_
  rw [ea]
  refine px (fun _ => pm_istore (lv' := [(5, .int (nI a)), (4, .int (nI (mA T 6 n))), (0, .ref (95)), (1, .int (nI n)), (2, .int (nI i)), (3, .int (nI j))]) (pc := 16) d_Mo_element_16 (by decide) rfl) ?_
  refine px (fun _ => pm_aload_n (pc := 18) d_Mo_element_18 rfl) ?_
  refine px (fun _ => pm_getf fl_Mo_47 (pc := 19) d_Mo_element_19 H.1 rfl) ?_
  refine px (fun _ => pm_iload_n (pc := 22) d_Mo_element_22 rfl) ?_
  refine px (fun _ => pm_iconst (v := 3) (pc := 23) d_Mo_element_23 rfl) ?_
  refine px (fun _ => pm_imulN (a := n) (b := 3) (pc := 24) d_Mo_element_24) ?_
  refine px (fun _ => pm_iconst (v := 1) (pc := 25) d_Mo_element_25 rfl) ?_
  refine px (fun _ => pm_iaddN (a := (n * 3)) (b := 1) (pc := 26) d_Mo_element_26) ?_
  refine px (fun _ => pm_iald (j := n * 3 + 1) (pc := 27) d_Mo_element_27 H.2.2.2.2.2.2.2.2.2.2.2.2.2.1 (rfl) (by omega) (by decide)) ?_
  rw [eb]
  refine px (fun _ => pm_istore (lv' := [(6, .int (nI b)), (5, .int (nI a)), (4, .int (nI (mA T 6 n))), (0, .ref (95)), (1, .int (nI n)), (2, .int (nI i)), (3, .int (nI j))]) (pc := 28) d_Mo_element_28 (by decide) rfl) ?_
  refine px (fun _ => pm_aload_n (pc := 30) d_Mo_element_30 rfl) ?_
  refine px (fun _ => pm_getf fl_Mo_47 (pc := 31) d_Mo_element_31 H.1 rfl) ?_
  refine px (fun _ => pm_iload_n (pc := 34) d_Mo_element_34 rfl) ?_
  refine px (fun _ => pm_iconst (v := 3) (pc := 35) d_Mo_element_35 rfl) ?_
  refine px (fun _ => pm_imulN (a := n) (b := 3) (pc := 36) d_Mo_element_36) ?_
  refine px (fun _ => pm_iconst (v := 2) (pc := 37) d_Mo_element_37 rfl) ?_
  refine px (fun _ => pm_iaddN (a := (n * 3)) (b := 2) (pc := 38) d_Mo_element_38) ?_
  refine px (fun _ => pm_iald (j := n * 3 + 2) (pc := 39) d_Mo_element_39 H.2.2.2.2.2.2.2.2.2.2.2.2.2.1 (rfl) (by omega) (by decide)) ?_
  refine px (fun _ => pm_istore (lv' := [(7, .int ((mQ T 12) (n * 3 + 2))), (6, .int (nI b)), (5, .int (nI a)), (4, .int (nI (mA T 6 n))), (0, .ref (95)), (1, .int (nI n)), (2, .int (nI i)), (3, .int (nI j))]) (pc := 40) d_Mo_element_40 (by decide) rfl) ?_
  refine px (fun _ => pm_iload (pc := 42) d_Mo_element_42 rfl) ?_
  have tx_44 : (nI (mA T 6 n) : Int32).toInt = 4 := by rw [hop]; rfl
  refine px (fun _ => pm_tabIn (off := 127) (tgt := 171) (pc := 44) d_Mo_element_44 (by rw [tx_44]; decide) (by rw [tx_44]; decide) (by rw [tx_44]; rfl) (by decide)) ?_
  refine px (fun _ => pm_aload_n (pc := 171) d_Mo_element_171 rfl) ?_
  refine px (fun _ => pm_iload (pc := 172) d_Mo_element_172 rfl) ?_
  refine px (fun _ => pm_iload (pc := 174) d_Mo_element_174 rfl) ?_
  refine px (fun _ => pm_iload_n (pc := 176) d_Mo_element_176 rfl) ?_
  refine px (fun _ => pm_iload_n (pc := 177) d_Mo_element_177 rfl) ?_
  refine px (fun _ => k_Mo_element_178 (kc1 := 0) (ks1 := 0) (kc := 0) (ks := 0) (av := [.int (nI a), .int (nI b), .int (nI i), .int (nI j)]) (st := []) H.1 (m_prd hl H ha ta ca ra hb cb rb sh hi hj hBa hBb) rfl rfl (Nat.le_of_ble_eq_true rfl)) ?_
  exact pxr (pm_dret (pc := 181) d_Mo_element_181 rfl) (rfl)
set_option maxHeartbeats 1000000 in
set_option maxRecDepth 20000 in
theorem e_5 {l : Launch} {G : pm_G} {fi : Bool} {h : pm_H} {S : gS} {T : mS} {n a i j : Nat} (hl : l.stackTraces = false) (H : mH T h) (hn : n < 14) (hop : mA T 6 n = 5) (hi4 : i < 4) (hj4 : j < 4) (ea : mQ T 12 (n * 3) = nI a) (ha : a < 20) (ta : mTb S T a) (ca : mCl S T a) (ra : g_rng S a) (hi : i < gT S a 1) (hj : j < gT S a 2) : pm_En l G fi fi 0 0 M_Mo_element [.ref (95), .int (nI n), .int (nI i), .int (nI j)] h (.inl (some (.double (if fGt (gC S a (i * 4 + j)) FP.dconst0 then gC S a (i * 4 + j) else FP.dconst0))), h) := by
  refine pm_Cn.eq (pm_Cn.of hl (by decide) (Nat.le_of_ble_eq_true rfl) ?_)
  obtain ⟨r1, r2, r3, r4, r5⟩ := id ra
  refine px (fun _ => pm_aload_n (pc := 0) d_Mo_element_0 rfl) ?_
  refine px (fun _ => pm_getf fl_Mo_29 (pc := 1) d_Mo_element_1 H.1 rfl) ?_
  refine px (fun _ => pm_iload_n (pc := 4) d_Mo_element_4 rfl) ?_
  refine px (fun _ => pm_iald (j := n) (pc := 5) d_Mo_element_5 H.2.2.2.2.2.2.2.1 (rfl) (hn) (by decide)) ?_
  refine px (fun _ => pm_istore (lv' := [(4, .int (nI (mA T 6 n))), (0, .ref (95)), (1, .int (nI n)), (2, .int (nI i)), (3, .int (nI j))]) (pc := 6) d_Mo_element_6 (by decide) rfl) ?_
  refine px (fun _ => pm_aload_n (pc := 8) d_Mo_element_8 rfl) ?_
  refine px (fun _ => pm_getf fl_Mo_47 (pc := 9) d_Mo_element_9 H.1 rfl) ?_
  refine px (fun _ => pm_iload_n (pc := 12) d_Mo_element_12 rfl) ?_
  refine px (fun _ => pm_iconst (v := 3) (pc := 13) d_Mo_element_13 rfl) ?_
  refine px (fun _ => pm_imulN (a := n) (b := 3) (pc := 14) d_Mo_element_14) ?_
  refine px (fun _ => pm_iald (j := n * 3) (pc := 15) d_Mo_element_15 H.2.2.2.2.2.2.2.2.2.2.2.2.2.1 (rfl) (by omega) (by decide)) ?_
  rw [ea]
  refine px (fun _ => pm_istore (lv' := [(5, .int (nI a)), (4, .int (nI (mA T 6 n))), (0, .ref (95)), (1, .int (nI n)), (2, .int (nI i)), (3, .int (nI j))]) (pc := 16) d_Mo_element_16 (by decide) rfl) ?_
  refine px (fun _ => pm_aload_n (pc := 18) d_Mo_element_18 rfl) ?_
  refine px (fun _ => pm_getf fl_Mo_47 (pc := 19) d_Mo_element_19 H.1 rfl) ?_
  refine px (fun _ => pm_iload_n (pc := 22) d_Mo_element_22 rfl) ?_
  refine px (fun _ => pm_iconst (v := 3) (pc := 23) d_Mo_element_23 rfl) ?_
  refine px (fun _ => pm_imulN (a := n) (b := 3) (pc := 24) d_Mo_element_24) ?_
  refine px (fun _ => pm_iconst (v := 1) (pc := 25) d_Mo_element_25 rfl) ?_
  refine px (fun _ => pm_iaddN (a := (n * 3)) (b := 1) (pc := 26) d_Mo_element_26) ?_
  refine px (fun _ => pm_iald (j := n * 3 + 1) (pc := 27) d_Mo_element_27 H.2.2.2.2.2.2.2.2.2.2.2.2.2.1 (rfl) (by omega) (by decide)) ?_
  refine px (fun _ => pm_istore (lv' := [(6, .int ((mQ T 12) (n * 3 + 1))), (5, .int (nI a)), (4, .int (nI (mA T 6 n))), (0, .ref (95)), (1, .int (nI n)), (2, .int (nI i)), (3, .int (nI j))]) (pc := 28) d_Mo_element_28 (by decide) rfl) ?_
  refine px (fun _ => pm_aload_n (pc := 30) d_Mo_element_30 rfl) ?_
  refine px (fun _ => pm_getf fl_Mo_47 (pc := 31) d_Mo_element_31 H.1 rfl) ?_
  refine px (fun _ => pm_iload_n (pc := 34) d_Mo_element_34 rfl) ?_
  refine px (fun _ => pm_iconst (v := 3) (pc := 35) d_Mo_element_35 rfl) ?_
  refine px (fun _ => pm_imulN (a := n) (b := 3) (pc := 36) d_Mo_element_36) ?_
  refine px (fun _ => pm_iconst (v := 2) (pc := 37) d_Mo_element_37 rfl) ?_
  refine px (fun _ => pm_iaddN (a := (n * 3)) (b := 2) (pc := 38) d_Mo_element_38) ?_
  refine px (fun _ => pm_iald (j := n * 3 + 2) (pc := 39) d_Mo_element_39 H.2.2.2.2.2.2.2.2.2.2.2.2.2.1 (rfl) (by omega) (by decide)) ?_
  refine px (fun _ => pm_istore (lv' := [(7, .int ((mQ T 12) (n * 3 + 2))), (6, .int ((mQ T 12) (n * 3 + 1))), (5, .int (nI a)), (4, .int (nI (mA T 6 n))), (0, .ref (95)), (1, .int (nI n)), (2, .int (nI i)), (3, .int (nI j))]) (pc := 40) d_Mo_element_40 (by decide) rfl) ?_
  refine px (fun _ => pm_iload (pc := 42) d_Mo_element_42 rfl) ?_
  have tx_44 : (nI (mA T 6 n) : Int32).toInt = 5 := by rw [hop]; rfl
  refine px (fun _ => pm_tabIn (off := 138) (tgt := 182) (pc := 44) d_Mo_element_44 (by rw [tx_44]; decide) (by rw [tx_44]; decide) (by rw [tx_44]; rfl) (by decide)) ?_
  refine px (fun _ => pm_aload_n (pc := 182) d_Mo_element_182 rfl) ?_
  refine px (fun _ => pm_iload (pc := 183) d_Mo_element_183 rfl) ?_
  refine px (fun _ => pm_iload_n (pc := 185) d_Mo_element_185 rfl) ?_
  refine px (fun _ => pm_iload_n (pc := 186) d_Mo_element_186 rfl) ?_
  refine px (fun _ => k_Mo_element_187 (kc1 := 0) (ks1 := 0) (kc := 0) (ks := 0) (av := [.int (nI a), .int (nI i), .int (nI j)]) (st := []) H.1 (m_at2 hl H ha ta ca ra (hi) (hj)) rfl rfl (Nat.le_of_ble_eq_true rfl)) ?_
  refine px (fun _ => pm_dconst0 (pc := 190) d_Mo_element_190) ?_
  refine px (fun _ => pm_dcmp (pc := 191) d_Mo_element_191) ?_
  refine pxb (fun _ => pm_if_le (pc := 192) (tgt := 206) d_Mo_element_192 (by decide)) (fun c_1 => ?_) (fun c_1 => ?_)
  · refine px (fun _ => pm_dconst0 (pc := 206) d_Mo_element_206) ?_
    exact pxr (pm_dret (pc := 207) d_Mo_element_207 rfl) (by rw [if_neg (fun q => q (by assumption))])
  · refine px (fun _ => pm_aload_n (pc := 195) d_Mo_element_195 rfl) ?_
    refine px (fun _ => pm_iload (pc := 196) d_Mo_element_196 rfl) ?_
    refine px (fun _ => pm_iload_n (pc := 198) d_Mo_element_198 rfl) ?_
    refine px (fun _ => pm_iload_n (pc := 199) d_Mo_element_199 rfl) ?_
    refine px (fun _ => k_Mo_element_200 (kc1 := 0) (ks1 := 0) (kc := 0) (ks := 0) (av := [.int (nI a), .int (nI i), .int (nI j)]) (st := []) H.1 (m_at2 hl H ha ta ca ra (hi) (hj)) rfl rfl (Nat.le_of_ble_eq_true rfl)) ?_
    refine px (fun _ => pm_goto (tgt := 207) (pc := 203) d_Mo_element_203 (by decide)) ?_
    exact pxr (pm_dret (pc := 207) d_Mo_element_207 rfl) (by rw [if_pos (by assumption)])
set_option maxHeartbeats 1000000 in
set_option maxRecDepth 20000 in
theorem e_6 {l : Launch} {G : pm_G} {fi : Bool} {h : pm_H} {S : gS} {T : mS} {n a i j : Nat} (hl : l.stackTraces = false) (H : mH T h) (hn : n < 14) (hop : mA T 6 n = 6) (hi4 : i < 4) (hj4 : j < 4) (ea : mQ T 12 (n * 3) = nI a) (ha : a < 20) (ta : mTb S T a) (ca : mCl S T a) (ra : g_rng S a) (hi : j < gT S a 1) (hj : i < gT S a 2) : pm_En l G fi fi 0 0 M_Mo_element [.ref (95), .int (nI n), .int (nI i), .int (nI j)] h (.inl (some (.double (gC S a (j * 4 + i)))), h) := by
  refine pm_Cn.eq (pm_Cn.of hl (by decide) (Nat.le_of_ble_eq_true rfl) ?_)
  obtain ⟨r1, r2, r3, r4, r5⟩ := id ra
  refine px (fun _ => pm_aload_n (pc := 0) d_Mo_element_0 rfl) ?_
  refine px (fun _ => pm_getf fl_Mo_29 (pc := 1) d_Mo_element_1 H.1 rfl) ?_
  refine px (fun _ => pm_iload_n (pc := 4) d_Mo_element_4 rfl) ?_
  refine px (fun _ => pm_iald (j := n) (pc := 5) d_Mo_element_5 H.2.2.2.2.2.2.2.1 (rfl) (hn) (by decide)) ?_
  refine px (fun _ => pm_istore (lv' := [(4, .int (nI (mA T 6 n))), (0, .ref (95)), (1, .int (nI n)), (2, .int (nI i)), (3, .int (nI j))]) (pc := 6) d_Mo_element_6 (by decide) rfl) ?_
  refine px (fun _ => pm_aload_n (pc := 8) d_Mo_element_8 rfl) ?_
  refine px (fun _ => pm_getf fl_Mo_47 (pc := 9) d_Mo_element_9 H.1 rfl) ?_
  refine px (fun _ => pm_iload_n (pc := 12) d_Mo_element_12 rfl) ?_
  refine px (fun _ => pm_iconst (v := 3) (pc := 13) d_Mo_element_13 rfl) ?_
  refine px (fun _ => pm_imulN (a := n) (b := 3) (pc := 14) d_Mo_element_14) ?_
  refine px (fun _ => pm_iald (j := n * 3) (pc := 15) d_Mo_element_15 H.2.2.2.2.2.2.2.2.2.2.2.2.2.1 (rfl) (by omega) (by decide)) ?_
  rw [ea]
  refine px (fun _ => pm_istore (lv' := [(5, .int (nI a)), (4, .int (nI (mA T 6 n))), (0, .ref (95)), (1, .int (nI n)), (2, .int (nI i)), (3, .int (nI j))]) (pc := 16) d_Mo_element_16 (by decide) rfl) ?_
  refine px (fun _ => pm_aload_n (pc := 18) d_Mo_element_18 rfl) ?_
  refine px (fun _ => pm_getf fl_Mo_47 (pc := 19) d_Mo_element_19 H.1 rfl) ?_
  refine px (fun _ => pm_iload_n (pc := 22) d_Mo_element_22 rfl) ?_
  refine px (fun _ => pm_iconst (v := 3) (pc := 23) d_Mo_element_23 rfl) ?_
  refine px (fun _ => pm_imulN (a := n) (b := 3) (pc := 24) d_Mo_element_24) ?_
  refine px (fun _ => pm_iconst (v := 1) (pc := 25) d_Mo_element_25 rfl) ?_
  refine px (fun _ => pm_iaddN (a := (n * 3)) (b := 1) (pc := 26) d_Mo_element_26) ?_
  refine px (fun _ => pm_iald (j := n * 3 + 1) (pc := 27) d_Mo_element_27 H.2.2.2.2.2.2.2.2.2.2.2.2.2.1 (rfl) (by omega) (by decide)) ?_
  refine px (fun _ => pm_istore (lv' := [(6, .int ((mQ T 12) (n * 3 + 1))), (5, .int (nI a)), (4, .int (nI (mA T 6 n))), (0, .ref (95)), (1, .int (nI n)), (2, .int (nI i)), (3, .int (nI j))]) (pc := 28) d_Mo_element_28 (by decide) rfl) ?_
  refine px (fun _ => pm_aload_n (pc := 30) d_Mo_element_30 rfl) ?_
  refine px (fun _ => pm_getf fl_Mo_47 (pc := 31) d_Mo_element_31 H.1 rfl) ?_
  refine px (fun _ => pm_iload_n (pc := 34) d_Mo_element_34 rfl) ?_
  refine px (fun _ => pm_iconst (v := 3) (pc := 35) d_Mo_element_35 rfl) ?_
  refine px (fun _ => pm_imulN (a := n) (b := 3) (pc := 36) d_Mo_element_36) ?_
  refine px (fun _ => pm_iconst (v := 2) (pc := 37) d_Mo_element_37 rfl) ?_
  refine px (fun _ => pm_iaddN (a := (n * 3)) (b := 2) (pc := 38) d_Mo_element_38) ?_
  refine px (fun _ => pm_iald (j := n * 3 + 2) (pc := 39) d_Mo_element_39 H.2.2.2.2.2.2.2.2.2.2.2.2.2.1 (rfl) (by omega) (by decide)) ?_
  refine px (fun _ => pm_istore (lv' := [(7, .int ((mQ T 12) (n * 3 + 2))), (6, .int ((mQ T 12) (n * 3 + 1))), (5, .int (nI a)), (4, .int (nI (mA T 6 n))), (0, .ref (95)), (1, .int (nI n)), (2, .int (nI i)), (3, .int (nI j))]) (pc := 40) d_Mo_element_40 (by decide) rfl) ?_
  refine px (fun _ => pm_iload (pc := 42) d_Mo_element_42 rfl) ?_
  have tx_44 : (nI (mA T 6 n) : Int32).toInt = 6 := by rw [hop]; rfl
  refine px (fun _ => pm_tabIn (off := 164) (tgt := 208) (pc := 44) d_Mo_element_44 (by rw [tx_44]; decide) (by rw [tx_44]; decide) (by rw [tx_44]; rfl) (by decide)) ?_
  refine px (fun _ => pm_aload_n (pc := 208) d_Mo_element_208 rfl) ?_
  refine px (fun _ => pm_getf fl_Mo_25 (pc := 209) d_Mo_element_209 H.1 rfl) ?_
  refine px (fun _ => pm_iload (pc := 212) d_Mo_element_212 rfl) ?_
  refine px (fun _ => pm_bipush (v := 16) (pc := 214) d_Mo_element_214 rfl) ?_
  refine px (fun _ => pm_imulN (a := a) (b := 16) (pc := 216) d_Mo_element_216) ?_
  refine px (fun _ => pm_iload_n (pc := 217) d_Mo_element_217 rfl) ?_
  refine px (fun _ => pm_iconst (v := 4) (pc := 218) d_Mo_element_218 rfl) ?_
  refine px (fun _ => pm_imulN (a := j) (b := 4) (pc := 219) d_Mo_element_219) ?_
  refine px (fun _ => pm_iaddN (a := (a * 16)) (b := (j * 4)) (pc := 220) d_Mo_element_220) ?_
  refine px (fun _ => pm_iload_n (pc := 221) d_Mo_element_221 rfl) ?_
  refine px (fun _ => pm_iaddN (a := ((a * 16) + (j * 4))) (b := i) (pc := 222) d_Mo_element_222) ?_
  refine px (fun _ => pm_dald (j := ((a * 16) + (j * 4)) + i) (pc := 223) d_Mo_element_223 H.2.2.2.2.2.2.1 (rfl) (by omega) (by decide)) ?_
  exact pxr (pm_dret (pc := 224) d_Mo_element_224 rfl) (by rw [← ca j i hi hj])
set_option maxHeartbeats 1000000 in
set_option maxRecDepth 20000 in
theorem e_7 {l : Launch} {G : pm_G} {fi : Bool} {h : pm_H} {S : gS} {T : mS} {n a i j : Nat} (hl : l.stackTraces = false) (H : mH T h) (hn : n < 14) (hop : mA T 6 n = 7) (hi4 : i < 4) (hj4 : j < 4) (ea : mQ T 12 (n * 3) = nI a) (ha : a < 20) (ta : mTb S T a) (ca : mCl S T a) (ra : g_rng S a) (hi : i < gT S a 1) (hj : j < gT S a 2) : pm_En l G fi fi 0 0 M_Mo_element [.ref (95), .int (nI n), .int (nI i), .int (nI j)] h (.inl (some (.double (if mQ T 8 n = 1 then FP.i2d (FP.d2i (gC S a (i * 4 + j))) else gC S a (i * 4 + j)))), h) := by
  refine pm_Cn.eq (pm_Cn.of hl (by decide) (Nat.le_of_ble_eq_true rfl) ?_)
  obtain ⟨r1, r2, r3, r4, r5⟩ := id ra
  refine px (fun _ => pm_aload_n (pc := 0) d_Mo_element_0 rfl) ?_
  refine px (fun _ => pm_getf fl_Mo_29 (pc := 1) d_Mo_element_1 H.1 rfl) ?_
  refine px (fun _ => pm_iload_n (pc := 4) d_Mo_element_4 rfl) ?_
  refine px (fun _ => pm_iald (j := n) (pc := 5) d_Mo_element_5 H.2.2.2.2.2.2.2.1 (rfl) (hn) (by decide)) ?_
  refine px (fun _ => pm_istore (lv' := [(4, .int (nI (mA T 6 n))), (0, .ref (95)), (1, .int (nI n)), (2, .int (nI i)), (3, .int (nI j))]) (pc := 6) d_Mo_element_6 (by decide) rfl) ?_
  refine px (fun _ => pm_aload_n (pc := 8) d_Mo_element_8 rfl) ?_
  refine px (fun _ => pm_getf fl_Mo_47 (pc := 9) d_Mo_element_9 H.1 rfl) ?_
  refine px (fun _ => pm_iload_n (pc := 12) d_Mo_element_12 rfl) ?_
  refine px (fun _ => pm_iconst (v := 3) (pc := 13) d_Mo_element_13 rfl) ?_
  refine px (fun _ => pm_imulN (a := n) (b := 3) (pc := 14) d_Mo_element_14) ?_
  refine px (fun _ => pm_iald (j := n * 3) (pc := 15) d_Mo_element_15 H.2.2.2.2.2.2.2.2.2.2.2.2.2.1 (rfl) (by omega) (by decide)) ?_
  rw [ea]
  refine px (fun _ => pm_istore (lv' := [(5, .int (nI a)), (4, .int (nI (mA T 6 n))), (0, .ref (95)), (1, .int (nI n)), (2, .int (nI i)), (3, .int (nI j))]) (pc := 16) d_Mo_element_16 (by decide) rfl) ?_
  refine px (fun _ => pm_aload_n (pc := 18) d_Mo_element_18 rfl) ?_
  refine px (fun _ => pm_getf fl_Mo_47 (pc := 19) d_Mo_element_19 H.1 rfl) ?_
  refine px (fun _ => pm_iload_n (pc := 22) d_Mo_element_22 rfl) ?_
  refine px (fun _ => pm_iconst (v := 3) (pc := 23) d_Mo_element_23 rfl) ?_
  refine px (fun _ => pm_imulN (a := n) (b := 3) (pc := 24) d_Mo_element_24) ?_
  refine px (fun _ => pm_iconst (v := 1) (pc := 25) d_Mo_element_25 rfl) ?_
  refine px (fun _ => pm_iaddN (a := (n * 3)) (b := 1) (pc := 26) d_Mo_element_26) ?_
  refine px (fun _ => pm_iald (j := n * 3 + 1) (pc := 27) d_Mo_element_27 H.2.2.2.2.2.2.2.2.2.2.2.2.2.1 (rfl) (by omega) (by decide)) ?_
  refine px (fun _ => pm_istore (lv' := [(6, .int ((mQ T 12) (n * 3 + 1))), (5, .int (nI a)), (4, .int (nI (mA T 6 n))), (0, .ref (95)), (1, .int (nI n)), (2, .int (nI i)), (3, .int (nI j))]) (pc := 28) d_Mo_element_28 (by decide) rfl) ?_
  refine px (fun _ => pm_aload_n (pc := 30) d_Mo_element_30 rfl) ?_
  refine px (fun _ => pm_getf fl_Mo_47 (pc := 31) d_Mo_element_31 H.1 rfl) ?_
  refine px (fun _ => pm_iload_n (pc := 34) d_Mo_element_34 rfl) ?_
  refine px (fun _ => pm_iconst (v := 3) (pc := 35) d_Mo_element_35 rfl) ?_
  refine px (fun _ => pm_imulN (a := n) (b := 3) (pc := 36) d_Mo_element_36) ?_
  refine px (fun _ => pm_iconst (v := 2) (pc := 37) d_Mo_element_37 rfl) ?_
  refine px (fun _ => pm_iaddN (a := (n * 3)) (b := 2) (pc := 38) d_Mo_element_38) ?_
  refine px (fun _ => pm_iald (j := n * 3 + 2) (pc := 39) d_Mo_element_39 H.2.2.2.2.2.2.2.2.2.2.2.2.2.1 (rfl) (by omega) (by decide)) ?_
  refine px (fun _ => pm_istore (lv' := [(7, .int ((mQ T 12) (n * 3 + 2))), (6, .int ((mQ T 12) (n * 3 + 1))), (5, .int (nI a)), (4, .int (nI (mA T 6 n))), (0, .ref (95)), (1, .int (nI n)), (2, .int (nI i)), (3, .int (nI j))]) (pc := 40) d_Mo_element_40 (by decide) rfl) ?_
  refine px (fun _ => pm_iload (pc := 42) d_Mo_element_42 rfl) ?_
  have tx_44 : (nI (mA T 6 n) : Int32).toInt = 7 := by rw [hop]; rfl
  refine px (fun _ => pm_tabIn (off := 181) (tgt := 225) (pc := 44) d_Mo_element_44 (by rw [tx_44]; decide) (by rw [tx_44]; decide) (by rw [tx_44]; rfl) (by decide)) ?_
  refine px (fun _ => pm_aload_n (pc := 225) d_Mo_element_225 rfl) ?_
  refine px (fun _ => pm_iload_n (pc := 226) d_Mo_element_226 rfl) ?_
  refine px (fun _ => pm_aload_n (pc := 227) d_Mo_element_227 rfl) ?_
  refine px (fun _ => pm_iload (pc := 228) d_Mo_element_228 rfl) ?_
  refine px (fun _ => pm_iload_n (pc := 230) d_Mo_element_230 rfl) ?_
  refine px (fun _ => pm_iload_n (pc := 231) d_Mo_element_231 rfl) ?_
  refine px (fun _ => k_Mo_element_232 (kc1 := 0) (ks1 := 0) (kc := 0) (ks := 0) (av := [.int (nI a), .int (nI i), .int (nI j)]) (st := [.int (nI n), .ref (95)]) H.1 (m_at2 hl H ha ta ca ra (hi) (hj)) rfl rfl (Nat.le_of_ble_eq_true rfl)) ?_
  refine px (fun _ => k_Mo_element_235 (kc1 := 0) (ks1 := 0) (kc := 0) (ks := 0) (av := [.int (nI n), .double (gC S a (i * 4 + j))]) (st := []) H.1 (m_cast (S := S) hl H hn) rfl rfl (Nat.le_of_ble_eq_true rfl)) ?_
  exact pxr (pm_dret (pc := 238) d_Mo_element_238 rfl) (rfl)
set_option maxHeartbeats 1000000 in
set_option maxRecDepth 20000 in
theorem e_8 {l : Launch} {G : pm_G} {fi : Bool} {h : pm_H} {S : gS} {T : mS} {n a b i j : Nat} (hl : l.stackTraces = false) (H : mH T h) (hn : n < 14) (hop : mA T 6 n = 8) (hi4 : i < 4) (hj4 : j < 4) (ea : mQ T 12 (n * 3) = nI a) (ha : a < 20) (ta : mTb S T a) (ca : mCl S T a) (ra : g_rng S a) (eb : mQ T 12 (n * 3 + 1) = nI b) (hb : b < 20) (tb : mTb S T b) (cb : mCl S T b) (rb : g_rng S b) (ia : gT S a 1 = 1 ∨ i < gT S a 1) (ja : gT S a 2 = 1 ∨ j < gT S a 2) (ib : gT S b 1 = 1 ∨ i < gT S b 1) (jb : gT S b 2 = 1 ∨ j < gT S b 2) : pm_En l G fi fi 0 0 M_Mo_element [.ref (95), .int (nI n), .int (nI i), .int (nI j)] h (.inl (some (.double (if fLt (g_ag S a i j) (g_ag S b i j) then FP.dconst1 else FP.dconst0))), h) := by
  refine pm_Cn.eq (pm_Cn.of hl (by decide) (Nat.le_of_ble_eq_true rfl) ?_)
  obtain ⟨r1, r2, r3, r4, r5⟩ := id ra
  obtain ⟨s1, s2, s3, s4, s5⟩ := id rb
  refine px (fun _ => pm_aload_n (pc := 0) d_Mo_element_0 rfl) ?_
  refine px (fun _ => pm_getf fl_Mo_29 (pc := 1) d_Mo_element_1 H.1 rfl) ?_
  refine px (fun _ => pm_iload_n (pc := 4) d_Mo_element_4 rfl) ?_
  refine px (fun _ => pm_iald (j := n) (pc := 5) d_Mo_element_5 H.2.2.2.2.2.2.2.1 (rfl) (hn) (by decide)) ?_
  refine px (fun _ => pm_istore (lv' := [(4, .int (nI (mA T 6 n))), (0, .ref (95)), (1, .int (nI n)), (2, .int (nI i)), (3, .int (nI j))]) (pc := 6) d_Mo_element_6 (by decide) rfl) ?_
  refine px (fun _ => pm_aload_n (pc := 8) d_Mo_element_8 rfl) ?_
  refine px (fun _ => pm_getf fl_Mo_47 (pc := 9) d_Mo_element_9 H.1 rfl) ?_
  refine px (fun _ => pm_iload_n (pc := 12) d_Mo_element_12 rfl) ?_
  refine px (fun _ => pm_iconst (v := 3) (pc := 13) d_Mo_element_13 rfl) ?_
  refine px (fun _ => pm_imulN (a := n) (b := 3) (pc := 14) d_Mo_element_14) ?_
  refine px (fun _ => pm_iald (j := n * 3) (pc := 15) d_Mo_element_15 H.2.2.2.2.2.2.2.2.2.2.2.2.2.1 (rfl) (by omega) (by decide)) ?_
  rw [ea]
  refine px (fun _ => pm_istore (lv' := [(5, .int (nI a)), (4, .int (nI (mA T 6 n))), (0, .ref (95)), (1, .int (nI n)), (2, .int (nI i)), (3, .int (nI j))]) (pc := 16) d_Mo_element_16 (by decide) rfl) ?_
  refine px (fun _ => pm_aload_n (pc := 18) d_Mo_element_18 rfl) ?_
  refine px (fun _ => pm_getf fl_Mo_47 (pc := 19) d_Mo_element_19 H.1 rfl) ?_
  refine px (fun _ => pm_iload_n (pc := 22) d_Mo_element_22 rfl) ?_
  refine px (fun _ => pm_iconst (v := 3) (pc := 23) d_Mo_element_23 rfl) ?_
  refine px (fun _ => pm_imulN (a := n) (b := 3) (pc := 24) d_Mo_element_24) ?_
  refine px (fun _ => pm_iconst (v := 1) (pc := 25) d_Mo_element_25 rfl) ?_
  refine px (fun _ => pm_iaddN (a := (n * 3)) (b := 1) (pc := 26) d_Mo_element_26) ?_
  refine px (fun _ => pm_iald (j := n * 3 + 1) (pc := 27) d_Mo_element_27 H.2.2.2.2.2.2.2.2.2.2.2.2.2.1 (rfl) (by omega) (by decide)) ?_
  rw [eb]
  refine px (fun _ => pm_istore (lv' := [(6, .int (nI b)), (5, .int (nI a)), (4, .int (nI (mA T 6 n))), (0, .ref (95)), (1, .int (nI n)), (2, .int (nI i)), (3, .int (nI j))]) (pc := 28) d_Mo_element_28 (by decide) rfl) ?_
  refine px (fun _ => pm_aload_n (pc := 30) d_Mo_element_30 rfl) ?_
  refine px (fun _ => pm_getf fl_Mo_47 (pc := 31) d_Mo_element_31 H.1 rfl) ?_
  refine px (fun _ => pm_iload_n (pc := 34) d_Mo_element_34 rfl) ?_
  refine px (fun _ => pm_iconst (v := 3) (pc := 35) d_Mo_element_35 rfl) ?_
  refine px (fun _ => pm_imulN (a := n) (b := 3) (pc := 36) d_Mo_element_36) ?_
  refine px (fun _ => pm_iconst (v := 2) (pc := 37) d_Mo_element_37 rfl) ?_
  refine px (fun _ => pm_iaddN (a := (n * 3)) (b := 2) (pc := 38) d_Mo_element_38) ?_
  refine px (fun _ => pm_iald (j := n * 3 + 2) (pc := 39) d_Mo_element_39 H.2.2.2.2.2.2.2.2.2.2.2.2.2.1 (rfl) (by omega) (by decide)) ?_
  refine px (fun _ => pm_istore (lv' := [(7, .int ((mQ T 12) (n * 3 + 2))), (6, .int (nI b)), (5, .int (nI a)), (4, .int (nI (mA T 6 n))), (0, .ref (95)), (1, .int (nI n)), (2, .int (nI i)), (3, .int (nI j))]) (pc := 40) d_Mo_element_40 (by decide) rfl) ?_
  refine px (fun _ => pm_iload (pc := 42) d_Mo_element_42 rfl) ?_
  have tx_44 : (nI (mA T 6 n) : Int32).toInt = 8 := by rw [hop]; rfl
  refine px (fun _ => pm_tabIn (off := 195) (tgt := 239) (pc := 44) d_Mo_element_44 (by rw [tx_44]; decide) (by rw [tx_44]; decide) (by rw [tx_44]; rfl) (by decide)) ?_
  refine px (fun _ => pm_aload_n (pc := 239) d_Mo_element_239 rfl) ?_
  refine px (fun _ => pm_iload (pc := 240) d_Mo_element_240 rfl) ?_
  refine px (fun _ => pm_iload_n (pc := 242) d_Mo_element_242 rfl) ?_
  refine px (fun _ => pm_iload_n (pc := 243) d_Mo_element_243 rfl) ?_
  refine px (fun _ => k_Mo_element_244 (kc1 := 0) (ks1 := 0) (kc := 0) (ks := 0) (av := [.int (nI a), .int (nI i), .int (nI j)]) (st := []) H.1 (m_at hl H ha ta ca ra hi4 hj4 ia ja) rfl rfl (Nat.le_of_ble_eq_true rfl)) ?_
  refine px (fun _ => pm_aload_n (pc := 247) d_Mo_element_247 rfl) ?_
  refine px (fun _ => pm_iload (pc := 248) d_Mo_element_248 rfl) ?_
  refine px (fun _ => pm_iload_n (pc := 250) d_Mo_element_250 rfl) ?_
  refine px (fun _ => pm_iload_n (pc := 251) d_Mo_element_251 rfl) ?_
  refine px (fun _ => k_Mo_element_252 (kc1 := 0) (ks1 := 0) (kc := 0) (ks := 0) (av := [.int (nI b), .int (nI i), .int (nI j)]) (st := [.double (g_ag S a i j)]) H.1 (m_at hl H hb tb cb rb hi4 hj4 ib jb) rfl rfl (Nat.le_of_ble_eq_true rfl)) ?_
  refine px (fun _ => pm_dcmp (pc := 255) d_Mo_element_255) ?_
  refine pxb (fun _ => pm_if_ge (pc := 256) (tgt := 263) d_Mo_element_256 (by decide)) (fun c_1 => ?_) (fun c_1 => ?_)
  · refine px (fun _ => pm_dconst0 (pc := 263) d_Mo_element_263) ?_
    exact pxr (pm_dret (pc := 264) d_Mo_element_264 rfl) (by rw [if_neg (fun q => q (by assumption))])
  · refine px (fun _ => pm_dconst1 (pc := 259) d_Mo_element_259) ?_
    refine px (fun _ => pm_goto (tgt := 264) (pc := 260) d_Mo_element_260 (by decide)) ?_
    exact pxr (pm_dret (pc := 264) d_Mo_element_264 rfl) (by rw [if_pos (by assumption)])
set_option maxHeartbeats 1000000 in
set_option maxRecDepth 20000 in
theorem e_9 {l : Launch} {G : pm_G} {fi : Bool} {h : pm_H} {S : gS} {T : mS} {n a b c i j : Nat} (hl : l.stackTraces = false) (H : mH T h) (hn : n < 14) (hop : mA T 6 n = 9) (hi4 : i < 4) (hj4 : j < 4) (ea : mQ T 12 (n * 3) = nI a) (ha : a < 20) (ta : mTb S T a) (ca : mCl S T a) (ra : g_rng S a) (eb : mQ T 12 (n * 3 + 1) = nI b) (hb : b < 20) (tb : mTb S T b) (cb : mCl S T b) (rb : g_rng S b) (ec : mQ T 12 (n * 3 + 2) = nI c) (hc : c < 20) (tc : mTb S T c) (cc : mCl S T c) (rc : g_rng S c) (ia : gT S a 1 = 1 ∨ i < gT S a 1) (ja : gT S a 2 = 1 ∨ j < gT S a 2) (ib : gT S b 1 = 1 ∨ i < gT S b 1) (jb : gT S b 2 = 1 ∨ j < gT S b 2) (ic : gT S c 1 = 1 ∨ i < gT S c 1) (jc : gT S c 2 = 1 ∨ j < gT S c 2) : pm_En l G fi fi 0 0 M_Mo_element [.ref (95), .int (nI n), .int (nI i), .int (nI j)] h (.inl (some (.double (if ¬ fEq (g_ag S c i j) FP.dconst0 then g_ag S a i j else g_ag S b i j))), h) := by
  refine pm_Cn.eq (pm_Cn.of hl (by decide) (Nat.le_of_ble_eq_true rfl) ?_)
  obtain ⟨r1, r2, r3, r4, r5⟩ := id ra
  obtain ⟨s1, s2, s3, s4, s5⟩ := id rb
  refine px (fun _ => pm_aload_n (pc := 0) d_Mo_element_0 rfl) ?_
  refine px (fun _ => pm_getf fl_Mo_29 (pc := 1) d_Mo_element_1 H.1 rfl) ?_
  refine px (fun _ => pm_iload_n (pc := 4) d_Mo_element_4 rfl) ?_
  refine px (fun _ => pm_iald (j := n) (pc := 5) d_Mo_element_5 H.2.2.2.2.2.2.2.1 (rfl) (hn) (by decide)) ?_
  refine px (fun _ => pm_istore (lv' := [(4, .int (nI (mA T 6 n))), (0, .ref (95)), (1, .int (nI n)), (2, .int (nI i)), (3, .int (nI j))]) (pc := 6) d_Mo_element_6 (by decide) rfl) ?_
  refine px (fun _ => pm_aload_n (pc := 8) d_Mo_element_8 rfl) ?_
  refine px (fun _ => pm_getf fl_Mo_47 (pc := 9) d_Mo_element_9 H.1 rfl) ?_
  refine px (fun _ => pm_iload_n (pc := 12) d_Mo_element_12 rfl) ?_
  refine px (fun _ => pm_iconst (v := 3) (pc := 13) d_Mo_element_13 rfl) ?_
  refine px (fun _ => pm_imulN (a := n) (b := 3) (pc := 14) d_Mo_element_14) ?_
  refine px (fun _ => pm_iald (j := n * 3) (pc := 15) d_Mo_element_15 H.2.2.2.2.2.2.2.2.2.2.2.2.2.1 (rfl) (by omega) (by decide)) ?_
  rw [ea]
  refine px (fun _ => pm_istore (lv' := [(5, .int (nI a)), (4, .int (nI (mA T 6 n))), (0, .ref (95)), (1, .int (nI n)), (2, .int (nI i)), (3, .int (nI j))]) (pc := 16) d_Mo_element_16 (by decide) rfl) ?_
  refine px (fun _ => pm_aload_n (pc := 18) d_Mo_element_18 rfl) ?_
  refine px (fun _ => pm_getf fl_Mo_47 (pc := 19) d_Mo_element_19 H.1 rfl) ?_
  refine px (fun _ => pm_iload_n (pc := 22) d_Mo_element_22 rfl) ?_
  refine px (fun _ => pm_iconst (v := 3) (pc := 23) d_Mo_element_23 rfl) ?_
  refine px (fun _ => pm_imulN (a := n) (b := 3) (pc := 24) d_Mo_element_24) ?_
  refine px (fun _ => pm_iconst (v := 1) (pc := 25) d_Mo_element_25 rfl) ?_
  refine px (fun _ => pm_iaddN (a := (n * 3)) (b := 1) (pc := 26) d_Mo_element_26) ?_
  refine px (fun _ => pm_iald (j := n * 3 + 1) (pc := 27) d_Mo_element_27 H.2.2.2.2.2.2.2.2.2.2.2.2.2.1 (rfl) (by omega) (by decide)) ?_
  rw [eb]
  refine px (fun _ => pm_istore (lv' := [(6, .int (nI b)), (5, .int (nI a)), (4, .int (nI (mA T 6 n))), (0, .ref (95)), (1, .int (nI n)), (2, .int (nI i)), (3, .int (nI j))]) (pc := 28) d_Mo_element_28 (by decide) rfl) ?_
  refine px (fun _ => pm_aload_n (pc := 30) d_Mo_element_30 rfl) ?_
  refine px (fun _ => pm_getf fl_Mo_47 (pc := 31) d_Mo_element_31 H.1 rfl) ?_
  refine px (fun _ => pm_iload_n (pc := 34) d_Mo_element_34 rfl) ?_
  refine px (fun _ => pm_iconst (v := 3) (pc := 35) d_Mo_element_35 rfl) ?_
  refine px (fun _ => pm_imulN (a := n) (b := 3) (pc := 36) d_Mo_element_36) ?_
  refine px (fun _ => pm_iconst (v := 2) (pc := 37) d_Mo_element_37 rfl) ?_
  refine px (fun _ => pm_iaddN (a := (n * 3)) (b := 2) (pc := 38) d_Mo_element_38) ?_
  refine px (fun _ => pm_iald (j := n * 3 + 2) (pc := 39) d_Mo_element_39 H.2.2.2.2.2.2.2.2.2.2.2.2.2.1 (rfl) (by omega) (by decide)) ?_
  rw [ec]
  refine px (fun _ => pm_istore (lv' := [(7, .int (nI c)), (6, .int (nI b)), (5, .int (nI a)), (4, .int (nI (mA T 6 n))), (0, .ref (95)), (1, .int (nI n)), (2, .int (nI i)), (3, .int (nI j))]) (pc := 40) d_Mo_element_40 (by decide) rfl) ?_
  refine px (fun _ => pm_iload (pc := 42) d_Mo_element_42 rfl) ?_
  have tx_44 : (nI (mA T 6 n) : Int32).toInt = 9 := by rw [hop]; rfl
  refine px (fun _ => pm_tabIn (off := 221) (tgt := 265) (pc := 44) d_Mo_element_44 (by rw [tx_44]; decide) (by rw [tx_44]; decide) (by rw [tx_44]; rfl) (by decide)) ?_
  refine px (fun _ => pm_aload_n (pc := 265) d_Mo_element_265 rfl) ?_
  refine px (fun _ => pm_iload (pc := 266) d_Mo_element_266 rfl) ?_
  refine px (fun _ => pm_iload_n (pc := 268) d_Mo_element_268 rfl) ?_
  refine px (fun _ => pm_iload_n (pc := 269) d_Mo_element_269 rfl) ?_
  refine px (fun _ => k_Mo_element_270 (kc1 := 0) (ks1 := 0) (kc := 0) (ks := 0) (av := [.int (nI c), .int (nI i), .int (nI j)]) (st := []) H.1 (m_at hl H hc tc cc rc hi4 hj4 ic jc) rfl rfl (Nat.le_of_ble_eq_true rfl)) ?_
  refine px (fun _ => pm_dconst0 (pc := 273) d_Mo_element_273) ?_
  refine px (fun _ => pm_dcmp (pc := 274) d_Mo_element_274) ?_
  refine pxb (fun _ => pm_if_eq (pc := 275) (tgt := 289) d_Mo_element_275 (by decide)) (fun c_1 => ?_) (fun c_1 => ?_)
  · refine px (fun _ => pm_aload_n (pc := 289) d_Mo_element_289 rfl) ?_
    refine px (fun _ => pm_iload (pc := 290) d_Mo_element_290 rfl) ?_
    refine px (fun _ => pm_iload_n (pc := 292) d_Mo_element_292 rfl) ?_
    refine px (fun _ => pm_iload_n (pc := 293) d_Mo_element_293 rfl) ?_
    refine px (fun _ => k_Mo_element_294 (kc1 := 0) (ks1 := 0) (kc := 0) (ks := 0) (av := [.int (nI b), .int (nI i), .int (nI j)]) (st := []) H.1 (m_at hl H hb tb cb rb hi4 hj4 ib jb) rfl rfl (Nat.le_of_ble_eq_true rfl)) ?_
    exact pxr (pm_dret (pc := 297) d_Mo_element_297 rfl) (by rw [if_neg (fun q => q (by assumption))])
  · refine px (fun _ => pm_aload_n (pc := 278) d_Mo_element_278 rfl) ?_
    refine px (fun _ => pm_iload (pc := 279) d_Mo_element_279 rfl) ?_
    refine px (fun _ => pm_iload_n (pc := 281) d_Mo_element_281 rfl) ?_
    refine px (fun _ => pm_iload_n (pc := 282) d_Mo_element_282 rfl) ?_
    refine px (fun _ => k_Mo_element_283 (kc1 := 0) (ks1 := 0) (kc := 0) (ks := 0) (av := [.int (nI a), .int (nI i), .int (nI j)]) (st := []) H.1 (m_at hl H ha ta ca ra hi4 hj4 ia ja) rfl rfl (Nat.le_of_ble_eq_true rfl)) ?_
    refine px (fun _ => pm_goto (tgt := 297) (pc := 286) d_Mo_element_286 (by decide)) ?_
    exact pxr (pm_dret (pc := 297) d_Mo_element_297 rfl) (by rw [if_pos (by assumption)])
set_option maxHeartbeats 1000000 in
set_option maxRecDepth 20000 in
theorem e_10_11 {l : Launch} {G : pm_G} {fi : Bool} {h : pm_H} {S : gS} {T : mS} {n a i j : Nat} (hl : l.stackTraces = false) (H : mH T h) (hn : n < 14) (hop : mA T 6 n = 10) (hi4 : i < 4) (hj4 : j < 4) (ea : mQ T 12 (n * 3) = nI a) (ha : a < 20) (ta : mTb S T a) (ca : mCl S T a) (ra : g_rng S a) (hx : j < gT S a 2) (hp : mQ T 8 n = 0) (hty : gT S a 0 = 1) : pm_En l G fi fi 0 0 M_Mo_element [.ref (95), .int (nI n), .int (nI i), .int (nI j)] h (.inl (some (.double (g_acc (gT S a 0) (g_c0 S a j) (gT S a 1)))), h) := by
  refine pm_Cn.eq (pm_Cn.of hl (by decide) (Nat.le_of_ble_eq_true rfl) ?_)
  obtain ⟨r1, r2, r3, r4, r5⟩ := id ra
  refine px (fun _ => pm_aload_n (pc := 0) d_Mo_element_0 rfl) ?_
  refine px (fun _ => pm_getf fl_Mo_29 (pc := 1) d_Mo_element_1 H.1 rfl) ?_
  refine px (fun _ => pm_iload_n (pc := 4) d_Mo_element_4 rfl) ?_
  refine px (fun _ => pm_iald (j := n) (pc := 5) d_Mo_element_5 H.2.2.2.2.2.2.2.1 (rfl) (hn) (by decide)) ?_
  refine px (fun _ => pm_istore (lv' := [(4, .int (nI (mA T 6 n))), (0, .ref (95)), (1, .int (nI n)), (2, .int (nI i)), (3, .int (nI j))]) (pc := 6) d_Mo_element_6 (by decide) rfl) ?_
  refine px (fun _ => pm_aload_n (pc := 8) d_Mo_element_8 rfl) ?_
  refine px (fun _ => pm_getf fl_Mo_47 (pc := 9) d_Mo_element_9 H.1 rfl) ?_
  refine px (fun _ => pm_iload_n (pc := 12) d_Mo_element_12 rfl) ?_
  refine px (fun _ => pm_iconst (v := 3) (pc := 13) d_Mo_element_13 rfl) ?_
  refine px (fun _ => pm_imulN (a := n) (b := 3) (pc := 14) d_Mo_element_14) ?_
  refine px (fun _ => pm_iald (j := n * 3) (pc := 15) d_Mo_element_15 H.2.2.2.2.2.2.2.2.2.2.2.2.2.1 (rfl) (by omega) (by decide)) ?_
  rw [ea]
  refine px (fun _ => pm_istore (lv' := [(5, .int (nI a)), (4, .int (nI (mA T 6 n))), (0, .ref (95)), (1, .int (nI n)), (2, .int (nI i)), (3, .int (nI j))]) (pc := 16) d_Mo_element_16 (by decide) rfl) ?_
  refine px (fun _ => pm_aload_n (pc := 18) d_Mo_element_18 rfl) ?_
  refine px (fun _ => pm_getf fl_Mo_47 (pc := 19) d_Mo_element_19 H.1 rfl) ?_
  refine px (fun _ => pm_iload_n (pc := 22) d_Mo_element_22 rfl) ?_
  refine px (fun _ => pm_iconst (v := 3) (pc := 23) d_Mo_element_23 rfl) ?_
  refine px (fun _ => pm_imulN (a := n) (b := 3) (pc := 24) d_Mo_element_24) ?_
  refine px (fun _ => pm_iconst (v := 1) (pc := 25) d_Mo_element_25 rfl) ?_
  refine px (fun _ => pm_iaddN (a := (n * 3)) (b := 1) (pc := 26) d_Mo_element_26) ?_
  refine px (fun _ => pm_iald (j := n * 3 + 1) (pc := 27) d_Mo_element_27 H.2.2.2.2.2.2.2.2.2.2.2.2.2.1 (rfl) (by omega) (by decide)) ?_
  refine px (fun _ => pm_istore (lv' := [(6, .int ((mQ T 12) (n * 3 + 1))), (5, .int (nI a)), (4, .int (nI (mA T 6 n))), (0, .ref (95)), (1, .int (nI n)), (2, .int (nI i)), (3, .int (nI j))]) (pc := 28) d_Mo_element_28 (by decide) rfl) ?_
  refine px (fun _ => pm_aload_n (pc := 30) d_Mo_element_30 rfl) ?_
  refine px (fun _ => pm_getf fl_Mo_47 (pc := 31) d_Mo_element_31 H.1 rfl) ?_
  refine px (fun _ => pm_iload_n (pc := 34) d_Mo_element_34 rfl) ?_
  refine px (fun _ => pm_iconst (v := 3) (pc := 35) d_Mo_element_35 rfl) ?_
  refine px (fun _ => pm_imulN (a := n) (b := 3) (pc := 36) d_Mo_element_36) ?_
  refine px (fun _ => pm_iconst (v := 2) (pc := 37) d_Mo_element_37 rfl) ?_
  refine px (fun _ => pm_iaddN (a := (n * 3)) (b := 2) (pc := 38) d_Mo_element_38) ?_
  refine px (fun _ => pm_iald (j := n * 3 + 2) (pc := 39) d_Mo_element_39 H.2.2.2.2.2.2.2.2.2.2.2.2.2.1 (rfl) (by omega) (by decide)) ?_
  refine px (fun _ => pm_istore (lv' := [(7, .int ((mQ T 12) (n * 3 + 2))), (6, .int ((mQ T 12) (n * 3 + 1))), (5, .int (nI a)), (4, .int (nI (mA T 6 n))), (0, .ref (95)), (1, .int (nI n)), (2, .int (nI i)), (3, .int (nI j))]) (pc := 40) d_Mo_element_40 (by decide) rfl) ?_
  refine px (fun _ => pm_iload (pc := 42) d_Mo_element_42 rfl) ?_
  have tx_44 : (nI (mA T 6 n) : Int32).toInt = 10 := by rw [hop]; rfl
  refine px (fun _ => pm_tabIn (off := 254) (tgt := 298) (pc := 44) d_Mo_element_44 (by rw [tx_44]; decide) (by rw [tx_44]; decide) (by rw [tx_44]; rfl) (by decide)) ?_
  refine px (fun _ => pm_aload_n (pc := 298) d_Mo_element_298 rfl) ?_
  refine px (fun _ => pm_iload (pc := 299) d_Mo_element_299 rfl) ?_
  refine px (fun _ => pm_iload_n (pc := 301) d_Mo_element_301 rfl) ?_
  refine px (fun _ => pm_iload_n (pc := 302) d_Mo_element_302 rfl) ?_
  refine px (fun _ => pm_aload_n (pc := 303) d_Mo_element_303 rfl) ?_
  refine px (fun _ => pm_getf fl_Mo_35 (pc := 304) d_Mo_element_304 H.1 rfl) ?_
  refine px (fun _ => pm_iload_n (pc := 307) d_Mo_element_307 rfl) ?_
  refine px (fun _ => pm_iald (j := n) (pc := 308) d_Mo_element_308 H.2.2.2.2.2.2.2.2.2.1 (rfl) (hn) (by decide)) ?_
  refine pxn (fun _ => pm_if_ne (pc := 309) (tgt := 316) d_Mo_element_309 (by decide)) (fun c_1 => absurd (hp) c_1) (fun c_1 => ?_)
  refine px (fun _ => pm_iconst (v := 1) (pc := 312) d_Mo_element_312 rfl) ?_
  refine px (fun _ => pm_goto (tgt := 317) (pc := 313) d_Mo_element_313 (by decide)) ?_
  refine px (fun _ => k_Mo_element_317 (kc1 := 0) (ks1 := 0) (kc := 0) (ks := 0) (av := [.int (nI a), .int (nI i), .int (nI j), .int (1)]) (st := []) H.1 (m_tot11 hl H ha ta ca ra hx hty) rfl rfl (Nat.le_of_ble_eq_true rfl)) ?_
  exact pxr (pm_dret (pc := 320) d_Mo_element_320 rfl) (rfl)
set_option maxHeartbeats 1000000 in
set_option maxRecDepth 20000 in
theorem e_10_10 {l : Launch} {G : pm_G} {fi : Bool} {h : pm_H} {S : gS} {T : mS} {n a i j : Nat} (hl : l.stackTraces = false) (H : mH T h) (hn : n < 14) (hop : mA T 6 n = 10) (hi4 : i < 4) (hj4 : j < 4) (ea : mQ T 12 (n * 3) = nI a) (ha : a < 20) (ta : mTb S T a) (ca : mCl S T a) (ra : g_rng S a) (hx : j < gT S a 2) (hp : mQ T 8 n = 0) (hty : ¬ gT S a 0 = 1) (hB : ∀ k, k < gT S a 1 → gB ((g_c0 S a j) k)) : pm_En l G fi fi 0 0 M_Mo_element [.ref (95), .int (nI n), .int (nI i), .int (nI j)] h (.inl (some (.double (g_acc (gT S a 0) (g_c0 S a j) (gT S a 1)))), h) := by
  refine pm_Cn.eq (pm_Cn.of hl (by decide) (Nat.le_of_ble_eq_true rfl) ?_)
  obtain ⟨r1, r2, r3, r4, r5⟩ := id ra
  refine px (fun _ => pm_aload_n (pc := 0) d_Mo_element_0 rfl) ?_
  refine px (fun _ => pm_getf fl_Mo_29 (pc := 1) d_Mo_element_1 H.1 rfl) ?_
  refine px (fun _ => pm_iload_n (pc := 4) d_Mo_element_4 rfl) ?_
  refine px (fun _ => pm_iald (j := n) (pc := 5) d_Mo_element_5 H.2.2.2.2.2.2.2.1 (rfl) (hn) (by decide)) ?_
  refine px (fun _ => pm_istore (lv' := [(4, .int (nI (mA T 6 n))), (0, .ref (95)), (1, .int (nI n)), (2, .int (nI i)), (3, .int (nI j))]) (pc := 6) d_Mo_element_6 (by decide) rfl) ?_
  refine px (fun _ => pm_aload_n (pc := 8) d_Mo_element_8 rfl) ?_
  refine px (fun _ => pm_getf fl_Mo_47 (pc := 9) d_Mo_element_9 H.1 rfl) ?_
  refine px (fun _ => pm_iload_n (pc := 12) d_Mo_element_12 rfl) ?_
  refine px (fun _ => pm_iconst (v := 3) (pc := 13) d_Mo_element_13 rfl) ?_
  refine px (fun _ => pm_imulN (a := n) (b := 3) (pc := 14) d_Mo_element_14) ?_
  refine px (fun _ => pm_iald (j := n * 3) (pc := 15) d_Mo_element_15 H.2.2.2.2.2.2.2.2.2.2.2.2.2.1 (rfl) (by omega) (by decide)) ?_
  rw [ea]
  refine px (fun _ => pm_istore (lv' := [(5, .int (nI a)), (4, .int (nI (mA T 6 n))), (0, .ref (95)), (1, .int (nI n)), (2, .int (nI i)), (3, .int (nI j))]) (pc := 16) d_Mo_element_16 (by decide) rfl) ?_
  refine px (fun _ => pm_aload_n (pc := 18) d_Mo_element_18 rfl) ?_
  refine px (fun _ => pm_getf fl_Mo_47 (pc := 19) d_Mo_element_19 H.1 rfl) ?_
  refine px (fun _ => pm_iload_n (pc := 22) d_Mo_element_22 rfl) ?_
  refine px (fun _ => pm_iconst (v := 3) (pc := 23) d_Mo_element_23 rfl) ?_
  refine px (fun _ => pm_imulN (a := n) (b := 3) (pc := 24) d_Mo_element_24) ?_
  refine px (fun _ => pm_iconst (v := 1) (pc := 25) d_Mo_element_25 rfl) ?_
  refine px (fun _ => pm_iaddN (a := (n * 3)) (b := 1) (pc := 26) d_Mo_element_26) ?_
  refine px (fun _ => pm_iald (j := n * 3 + 1) (pc := 27) d_Mo_element_27 H.2.2.2.2.2.2.2.2.2.2.2.2.2.1 (rfl) (by omega) (by decide)) ?_
  refine px (fun _ => pm_istore (lv' := [(6, .int ((mQ T 12) (n * 3 + 1))), (5, .int (nI a)), (4, .int (nI (mA T 6 n))), (0, .ref (95)), (1, .int (nI n)), (2, .int (nI i)), (3, .int (nI j))]) (pc := 28) d_Mo_element_28 (by decide) rfl) ?_
  refine px (fun _ => pm_aload_n (pc := 30) d_Mo_element_30 rfl) ?_
  refine px (fun _ => pm_getf fl_Mo_47 (pc := 31) d_Mo_element_31 H.1 rfl) ?_
  refine px (fun _ => pm_iload_n (pc := 34) d_Mo_element_34 rfl) ?_
  refine px (fun _ => pm_iconst (v := 3) (pc := 35) d_Mo_element_35 rfl) ?_
  refine px (fun _ => pm_imulN (a := n) (b := 3) (pc := 36) d_Mo_element_36) ?_
  refine px (fun _ => pm_iconst (v := 2) (pc := 37) d_Mo_element_37 rfl) ?_
  refine px (fun _ => pm_iaddN (a := (n * 3)) (b := 2) (pc := 38) d_Mo_element_38) ?_
  refine px (fun _ => pm_iald (j := n * 3 + 2) (pc := 39) d_Mo_element_39 H.2.2.2.2.2.2.2.2.2.2.2.2.2.1 (rfl) (by omega) (by decide)) ?_
  refine px (fun _ => pm_istore (lv' := [(7, .int ((mQ T 12) (n * 3 + 2))), (6, .int ((mQ T 12) (n * 3 + 1))), (5, .int (nI a)), (4, .int (nI (mA T 6 n))), (0, .ref (95)), (1, .int (nI n)), (2, .int (nI i)), (3, .int (nI j))]) (pc := 40) d_Mo_element_40 (by decide) rfl) ?_
  refine px (fun _ => pm_iload (pc := 42) d_Mo_element_42 rfl) ?_
  have tx_44 : (nI (mA T 6 n) : Int32).toInt = 10 := by rw [hop]; rfl
  refine px (fun _ => pm_tabIn (off := 254) (tgt := 298) (pc := 44) d_Mo_element_44 (by rw [tx_44]; decide) (by rw [tx_44]; decide) (by rw [tx_44]; rfl) (by decide)) ?_
  refine px (fun _ => pm_aload_n (pc := 298) d_Mo_element_298 rfl) ?_
  refine px (fun _ => pm_iload (pc := 299) d_Mo_element_299 rfl) ?_
  refine px (fun _ => pm_iload_n (pc := 301) d_Mo_element_301 rfl) ?_
  refine px (fun _ => pm_iload_n (pc := 302) d_Mo_element_302 rfl) ?_
  refine px (fun _ => pm_aload_n (pc := 303) d_Mo_element_303 rfl) ?_
  refine px (fun _ => pm_getf fl_Mo_35 (pc := 304) d_Mo_element_304 H.1 rfl) ?_
  refine px (fun _ => pm_iload_n (pc := 307) d_Mo_element_307 rfl) ?_
  refine px (fun _ => pm_iald (j := n) (pc := 308) d_Mo_element_308 H.2.2.2.2.2.2.2.2.2.1 (rfl) (hn) (by decide)) ?_
  refine pxn (fun _ => pm_if_ne (pc := 309) (tgt := 316) d_Mo_element_309 (by decide)) (fun c_1 => absurd (hp) c_1) (fun c_1 => ?_)
  refine px (fun _ => pm_iconst (v := 1) (pc := 312) d_Mo_element_312 rfl) ?_
  refine px (fun _ => pm_goto (tgt := 317) (pc := 313) d_Mo_element_313 (by decide)) ?_
  refine px (fun _ => k_Mo_element_317 (kc1 := 0) (ks1 := 0) (kc := 0) (ks := 0) (av := [.int (nI a), .int (nI i), .int (nI j), .int (1)]) (st := []) H.1 (m_tot10 hl H ha ta ca ra hx hty hB) rfl rfl (Nat.le_of_ble_eq_true rfl)) ?_
  exact pxr (pm_dret (pc := 320) d_Mo_element_320 rfl) (rfl)
set_option maxHeartbeats 1000000 in
set_option maxRecDepth 20000 in
theorem e_11_1 {l : Launch} {G : pm_G} {fi : Bool} {h : pm_H} {S : gS} {T : mS} {n a i j : Nat} (hl : l.stackTraces = false) (H : mH T h) (hn : n < 14) (hop : mA T 6 n = 11) (hi4 : i < 4) (hj4 : j < 4) (ea : mQ T 12 (n * 3) = nI a) (ha : a < 20) (ta : mTb S T a) (ca : mCl S T a) (ra : g_rng S a) (hx : j < gT S a 2) (hp : mQ T 8 n = 0) : pm_En l G fi fi 0 0 M_Mo_element [.ref (95), .int (nI n), .int (nI i), .int (nI j)] h (.inl (some (.double (g_mx (g_c0 S a j) (gT S a 1 - 1)))), h) := by
  refine pm_Cn.eq (pm_Cn.of hl (by decide) (Nat.le_of_ble_eq_true rfl) ?_)
  obtain ⟨r1, r2, r3, r4, r5⟩ := id ra
  refine px (fun _ => pm_aload_n (pc := 0) d_Mo_element_0 rfl) ?_
  refine px (fun _ => pm_getf fl_Mo_29 (pc := 1) d_Mo_element_1 H.1 rfl) ?_
  refine px (fun _ => pm_iload_n (pc := 4) d_Mo_element_4 rfl) ?_
  refine px (fun _ => pm_iald (j := n) (pc := 5) d_Mo_element_5 H.2.2.2.2.2.2.2.1 (rfl) (hn) (by decide)) ?_
  refine px (fun _ => pm_istore (lv' := [(4, .int (nI (mA T 6 n))), (0, .ref (95)), (1, .int (nI n)), (2, .int (nI i)), (3, .int (nI j))]) (pc := 6) d_Mo_element_6 (by decide) rfl) ?_
  refine px (fun _ => pm_aload_n (pc := 8) d_Mo_element_8 rfl) ?_
  refine px (fun _ => pm_getf fl_Mo_47 (pc := 9) d_Mo_element_9 H.1 rfl) ?_
  refine px (fun _ => pm_iload_n (pc := 12) d_Mo_element_12 rfl) ?_
  refine px (fun _ => pm_iconst (v := 3) (pc := 13) d_Mo_element_13 rfl) ?_
  refine px (fun _ => pm_imulN (a := n) (b := 3) (pc := 14) d_Mo_element_14) ?_
  refine px (fun _ => pm_iald (j := n * 3) (pc := 15) d_Mo_element_15 H.2.2.2.2.2.2.2.2.2.2.2.2.2.1 (rfl) (by omega) (by decide)) ?_
  rw [ea]
  refine px (fun _ => pm_istore (lv' := [(5, .int (nI a)), (4, .int (nI (mA T 6 n))), (0, .ref (95)), (1, .int (nI n)), (2, .int (nI i)), (3, .int (nI j))]) (pc := 16) d_Mo_element_16 (by decide) rfl) ?_
  refine px (fun _ => pm_aload_n (pc := 18) d_Mo_element_18 rfl) ?_
  refine px (fun _ => pm_getf fl_Mo_47 (pc := 19) d_Mo_element_19 H.1 rfl) ?_
  refine px (fun _ => pm_iload_n (pc := 22) d_Mo_element_22 rfl) ?_
  refine px (fun _ => pm_iconst (v := 3) (pc := 23) d_Mo_element_23 rfl) ?_
  refine px (fun _ => pm_imulN (a := n) (b := 3) (pc := 24) d_Mo_element_24) ?_
  refine px (fun _ => pm_iconst (v := 1) (pc := 25) d_Mo_element_25 rfl) ?_
  refine px (fun _ => pm_iaddN (a := (n * 3)) (b := 1) (pc := 26) d_Mo_element_26) ?_
  refine px (fun _ => pm_iald (j := n * 3 + 1) (pc := 27) d_Mo_element_27 H.2.2.2.2.2.2.2.2.2.2.2.2.2.1 (rfl) (by omega) (by decide)) ?_
  refine px (fun _ => pm_istore (lv' := [(6, .int ((mQ T 12) (n * 3 + 1))), (5, .int (nI a)), (4, .int (nI (mA T 6 n))), (0, .ref (95)), (1, .int (nI n)), (2, .int (nI i)), (3, .int (nI j))]) (pc := 28) d_Mo_element_28 (by decide) rfl) ?_
  refine px (fun _ => pm_aload_n (pc := 30) d_Mo_element_30 rfl) ?_
  refine px (fun _ => pm_getf fl_Mo_47 (pc := 31) d_Mo_element_31 H.1 rfl) ?_
  refine px (fun _ => pm_iload_n (pc := 34) d_Mo_element_34 rfl) ?_
  refine px (fun _ => pm_iconst (v := 3) (pc := 35) d_Mo_element_35 rfl) ?_
  refine px (fun _ => pm_imulN (a := n) (b := 3) (pc := 36) d_Mo_element_36) ?_
  refine px (fun _ => pm_iconst (v := 2) (pc := 37) d_Mo_element_37 rfl) ?_
  refine px (fun _ => pm_iaddN (a := (n * 3)) (b := 2) (pc := 38) d_Mo_element_38) ?_
  refine px (fun _ => pm_iald (j := n * 3 + 2) (pc := 39) d_Mo_element_39 H.2.2.2.2.2.2.2.2.2.2.2.2.2.1 (rfl) (by omega) (by decide)) ?_
  refine px (fun _ => pm_istore (lv' := [(7, .int ((mQ T 12) (n * 3 + 2))), (6, .int ((mQ T 12) (n * 3 + 1))), (5, .int (nI a)), (4, .int (nI (mA T 6 n))), (0, .ref (95)), (1, .int (nI n)), (2, .int (nI i)), (3, .int (nI j))]) (pc := 40) d_Mo_element_40 (by decide) rfl) ?_
  refine px (fun _ => pm_iload (pc := 42) d_Mo_element_42 rfl) ?_
  have tx_44 : (nI (mA T 6 n) : Int32).toInt = 11 := by rw [hop]; rfl
  refine px (fun _ => pm_tabIn (off := 277) (tgt := 321) (pc := 44) d_Mo_element_44 (by rw [tx_44]; decide) (by rw [tx_44]; decide) (by rw [tx_44]; rfl) (by decide)) ?_
  refine px (fun _ => pm_aload_n (pc := 321) d_Mo_element_321 rfl) ?_
  refine px (fun _ => pm_getf fl_Mo_35 (pc := 322) d_Mo_element_322 H.1 rfl) ?_
  refine px (fun _ => pm_iload_n (pc := 325) d_Mo_element_325 rfl) ?_
  refine px (fun _ => pm_iald (j := n) (pc := 326) d_Mo_element_326 H.2.2.2.2.2.2.2.2.2.1 (rfl) (hn) (by decide)) ?_
  refine pxn (fun _ => pm_if_ne (pc := 327) (tgt := 349) d_Mo_element_327 (by decide)) (fun c_1 => absurd (hp) c_1) (fun c_1 => ?_)
  refine px (fun _ => pm_aload_n (pc := 330) d_Mo_element_330 rfl) ?_
  refine px (fun _ => pm_iload (pc := 331) d_Mo_element_331 rfl) ?_
  refine px (fun _ => pm_aload_n (pc := 333) d_Mo_element_333 rfl) ?_
  refine px (fun _ => pm_iload (pc := 334) d_Mo_element_334 rfl) ?_
  refine px (fun _ => pm_iload_n (pc := 336) d_Mo_element_336 rfl) ?_
  refine px (fun _ => pm_iload_n (pc := 337) d_Mo_element_337 rfl) ?_
  refine px (fun _ => pm_iconst (v := 1) (pc := 338) d_Mo_element_338 rfl) ?_
  refine px (fun _ => k_Mo_element_339 (kc1 := 0) (ks1 := 0) (kc := 0) (ks := 0) (av := [.int (nI a), .int (nI i), .int (nI j), .int (1)]) (st := [.int (nI a), .ref (95)]) H.1 (m_fst1 hl H ha ta ca ra hx) rfl rfl (Nat.le_of_ble_eq_true rfl)) ?_
  refine px (fun _ => pm_iload_n (pc := 342) d_Mo_element_342 rfl) ?_
  refine px (fun _ => k_Mo_element_343 (kc1 := 0) (ks1 := 0) (kc := 0) (ks := 0) (av := [.int (nI a), .int (nI (g_fi (g_c0 S a j) (gT S a 1 - 1))), .int (nI j)]) (st := []) H.1 (m_at2 hl H ha ta ca ra (Nat.lt_of_le_of_lt (g_fi_le _ _) (by omega)) (hx)) rfl rfl (Nat.le_of_ble_eq_true rfl)) ?_
  refine px (fun _ => pm_goto (tgt := 365) (pc := 346) d_Mo_element_346 (by decide)) ?_
  exact pxr (pm_dret (pc := 365) d_Mo_element_365 rfl) (by rw [g_mx_fi])
set_option maxHeartbeats 1000000 in
set_option maxRecDepth 20000 in
theorem e_10_01 {l : Launch} {G : pm_G} {fi : Bool} {h : pm_H} {S : gS} {T : mS} {n a i j : Nat} (hl : l.stackTraces = false) (H : mH T h) (hn : n < 14) (hop : mA T 6 n = 10) (hi4 : i < 4) (hj4 : j < 4) (ea : mQ T 12 (n * 3) = nI a) (ha : a < 20) (ta : mTb S T a) (ca : mCl S T a) (ra : g_rng S a) (hx : i < gT S a 1) (hp : mQ T 8 n = 1) (hty : gT S a 0 = 1) : pm_En l G fi fi 0 0 M_Mo_element [.ref (95), .int (nI n), .int (nI i), .int (nI j)] h (.inl (some (.double (g_acc (gT S a 0) (g_c1 S a i) (gT S a 2)))), h) := by
  refine pm_Cn.eq (pm_Cn.of hl (by decide) (Nat.le_of_ble_eq_true rfl) ?_)
  obtain ⟨r1, r2, r3, r4, r5⟩ := id ra
  refine px (fun _ => pm_aload_n (pc := 0) d_Mo_element_0 rfl) ?_
  refine px (fun _ => pm_getf fl_Mo_29 (pc := 1) d_Mo_element_1 H.1 rfl) ?_
  refine px (fun _ => pm_iload_n (pc := 4) d_Mo_element_4 rfl) ?_
  refine px (fun _ => pm_iald (j := n) (pc := 5) d_Mo_element_5 H.2.2.2.2.2.2.2.1 (rfl) (hn) (by decide)) ?_
  refine px (fun _ => pm_istore (lv' := [(4, .int (nI (mA T 6 n))), (0, .ref (95)), (1, .int (nI n)), (2, .int (nI i)), (3, .int (nI j))]) (pc := 6) d_Mo_element_6 (by decide) rfl) ?_
  refine px (fun _ => pm_aload_n (pc := 8) d_Mo_element_8 rfl) ?_
  refine px (fun _ => pm_getf fl_Mo_47 (pc := 9) d_Mo_element_9 H.1 rfl) ?_
  refine px (fun _ => pm_iload_n (pc := 12) d_Mo_element_12 rfl) ?_
  refine px (fun _ => pm_iconst (v := 3) (pc := 13) d_Mo_element_13 rfl) ?_
  refine px (fun _ => pm_imulN (a := n) (b := 3) (pc := 14) d_Mo_element_14) ?_
  refine px (fun _ => pm_iald (j := n * 3) (pc := 15) d_Mo_element_15 H.2.2.2.2.2.2.2.2.2.2.2.2.2.1 (rfl) (by omega) (by decide)) ?_
  rw [ea]
  refine px (fun _ => pm_istore (lv' := [(5, .int (nI a)), (4, .int (nI (mA T 6 n))), (0, .ref (95)), (1, .int (nI n)), (2, .int (nI i)), (3, .int (nI j))]) (pc := 16) d_Mo_element_16 (by decide) rfl) ?_
  refine px (fun _ => pm_aload_n (pc := 18) d_Mo_element_18 rfl) ?_
  refine px (fun _ => pm_getf fl_Mo_47 (pc := 19) d_Mo_element_19 H.1 rfl) ?_
  refine px (fun _ => pm_iload_n (pc := 22) d_Mo_element_22 rfl) ?_
  refine px (fun _ => pm_iconst (v := 3) (pc := 23) d_Mo_element_23 rfl) ?_
  refine px (fun _ => pm_imulN (a := n) (b := 3) (pc := 24) d_Mo_element_24) ?_
  refine px (fun _ => pm_iconst (v := 1) (pc := 25) d_Mo_element_25 rfl) ?_
  refine px (fun _ => pm_iaddN (a := (n * 3)) (b := 1) (pc := 26) d_Mo_element_26) ?_
  refine px (fun _ => pm_iald (j := n * 3 + 1) (pc := 27) d_Mo_element_27 H.2.2.2.2.2.2.2.2.2.2.2.2.2.1 (rfl) (by omega) (by decide)) ?_
  refine px (fun _ => pm_istore (lv' := [(6, .int ((mQ T 12) (n * 3 + 1))), (5, .int (nI a)), (4, .int (nI (mA T 6 n))), (0, .ref (95)), (1, .int (nI n)), (2, .int (nI i)), (3, .int (nI j))]) (pc := 28) d_Mo_element_28 (by decide) rfl) ?_
  refine px (fun _ => pm_aload_n (pc := 30) d_Mo_element_30 rfl) ?_
  refine px (fun _ => pm_getf fl_Mo_47 (pc := 31) d_Mo_element_31 H.1 rfl) ?_
  refine px (fun _ => pm_iload_n (pc := 34) d_Mo_element_34 rfl) ?_
  refine px (fun _ => pm_iconst (v := 3) (pc := 35) d_Mo_element_35 rfl) ?_
  refine px (fun _ => pm_imulN (a := n) (b := 3) (pc := 36) d_Mo_element_36) ?_
  refine px (fun _ => pm_iconst (v := 2) (pc := 37) d_Mo_element_37 rfl) ?_
  refine px (fun _ => pm_iaddN (a := (n * 3)) (b := 2) (pc := 38) d_Mo_element_38) ?_
  refine px (fun _ => pm_iald (j := n * 3 + 2) (pc := 39) d_Mo_element_39 H.2.2.2.2.2.2.2.2.2.2.2.2.2.1 (rfl) (by omega) (by decide)) ?_
  refine px (fun _ => pm_istore (lv' := [(7, .int ((mQ T 12) (n * 3 + 2))), (6, .int ((mQ T 12) (n * 3 + 1))), (5, .int (nI a)), (4, .int (nI (mA T 6 n))), (0, .ref (95)), (1, .int (nI n)), (2, .int (nI i)), (3, .int (nI j))]) (pc := 40) d_Mo_element_40 (by decide) rfl) ?_
  refine px (fun _ => pm_iload (pc := 42) d_Mo_element_42 rfl) ?_
  have tx_44 : (nI (mA T 6 n) : Int32).toInt = 10 := by rw [hop]; rfl
  refine px (fun _ => pm_tabIn (off := 254) (tgt := 298) (pc := 44) d_Mo_element_44 (by rw [tx_44]; decide) (by rw [tx_44]; decide) (by rw [tx_44]; rfl) (by decide)) ?_
  refine px (fun _ => pm_aload_n (pc := 298) d_Mo_element_298 rfl) ?_
  refine px (fun _ => pm_iload (pc := 299) d_Mo_element_299 rfl) ?_
  refine px (fun _ => pm_iload_n (pc := 301) d_Mo_element_301 rfl) ?_
  refine px (fun _ => pm_iload_n (pc := 302) d_Mo_element_302 rfl) ?_
  refine px (fun _ => pm_aload_n (pc := 303) d_Mo_element_303 rfl) ?_
  refine px (fun _ => pm_getf fl_Mo_35 (pc := 304) d_Mo_element_304 H.1 rfl) ?_
  refine px (fun _ => pm_iload_n (pc := 307) d_Mo_element_307 rfl) ?_
  refine px (fun _ => pm_iald (j := n) (pc := 308) d_Mo_element_308 H.2.2.2.2.2.2.2.2.2.1 (rfl) (hn) (by decide)) ?_
  refine pxn (fun _ => pm_if_ne (pc := 309) (tgt := 316) d_Mo_element_309 (by decide)) (fun c_1 => ?_) (fun c_1 => absurd c_1 (fun q => absurd (hp.symm.trans q) (by decide)))
  refine px (fun _ => pm_iconst (v := 0) (pc := 316) d_Mo_element_316 rfl) ?_
  refine px (fun _ => k_Mo_element_317 (kc1 := 0) (ks1 := 0) (kc := 0) (ks := 0) (av := [.int (nI a), .int (nI i), .int (nI j), .int (0)]) (st := []) H.1 (m_tot01 hl H ha ta ca ra hx hty) rfl rfl (Nat.le_of_ble_eq_true rfl)) ?_
  exact pxr (pm_dret (pc := 320) d_Mo_element_320 rfl) (rfl)
set_option maxHeartbeats 1000000 in
set_option maxRecDepth 20000 in
theorem e_10_00 {l : Launch} {G : pm_G} {fi : Bool} {h : pm_H} {S : gS} {T : mS} {n a i j : Nat} (hl : l.stackTraces = false) (H : mH T h) (hn : n < 14) (hop : mA T 6 n = 10) (hi4 : i < 4) (hj4 : j < 4) (ea : mQ T 12 (n * 3) = nI a) (ha : a < 20) (ta : mTb S T a) (ca : mCl S T a) (ra : g_rng S a) (hx : i < gT S a 1) (hp : mQ T 8 n = 1) (hty : ¬ gT S a 0 = 1) (hB : ∀ k, k < gT S a 2 → gB ((g_c1 S a i) k)) : pm_En l G fi fi 0 0 M_Mo_element [.ref (95), .int (nI n), .int (nI i), .int (nI j)] h (.inl (some (.double (g_acc (gT S a 0) (g_c1 S a i) (gT S a 2)))), h) := by
  refine pm_Cn.eq (pm_Cn.of hl (by decide) (Nat.le_of_ble_eq_true rfl) ?_)
  obtain ⟨r1, r2, r3, r4, r5⟩ := id ra
  refine px (fun _ => pm_aload_n (pc := 0) d_Mo_element_0 rfl) ?_
  refine px (fun _ => pm_getf fl_Mo_29 (pc := 1) d_Mo_element_1 H.1 rfl) ?_
  refine px (fun _ => pm_iload_n (pc := 4) d_Mo_element_4 rfl) ?_
  refine px (fun _ => pm_iald (j := n) (pc := 5) d_Mo_element_5 H.2.2.2.2.2.2.2.1 (rfl) (hn) (by decide)) ?_
  refine px (fun _ => pm_istore (lv' := [(4, .int (nI (mA T 6 n))), (0, .ref (95)), (1, .int (nI n)), (2, .int (nI i)), (3, .int (nI j))]) (pc := 6) d_Mo_element_6 (by decide) rfl) ?_
  refine px (fun _ => pm_aload_n (pc := 8) d_Mo_element_8 rfl) ?_
  refine px (fun _ => pm_getf fl_Mo_47 (pc := 9) d_Mo_element_9 H.1 rfl) ?_
  refine px (fun _ => pm_iload_n (pc := 12) d_Mo_element_12 rfl) ?_
  refine px (fun _ => pm_iconst (v := 3) (pc := 13) d_Mo_element_13 rfl) ?_
  refine px (fun _ => pm_imulN (a := n) (b := 3) (pc := 14) d_Mo_element_14) ?_
  refine px (fun _ => pm_iald (j := n * 3) (pc := 15) d_Mo_element_15 H.2.2.2.2.2.2.2.2.2.2.2.2.2.1 (rfl) (by omega) (by decide)) ?_
  rw [ea]
  refine px (fun _ => pm_istore (lv' := [(5, .int (nI a)), (4, .int (nI (mA T 6 n))), (0, .ref (95)), (1, .int (nI n)), (2, .int (nI i)), (3, .int (nI j))]) (pc := 16) d_Mo_element_16 (by decide) rfl) ?_
  refine px (fun _ => pm_aload_n (pc := 18) d_Mo_element_18 rfl) ?_
  refine px (fun _ => pm_getf fl_Mo_47 (pc := 19) d_Mo_element_19 H.1 rfl) ?_
  refine px (fun _ => pm_iload_n (pc := 22) d_Mo_element_22 rfl) ?_
  refine px (fun _ => pm_iconst (v := 3) (pc := 23) d_Mo_element_23 rfl) ?_
  refine px (fun _ => pm_imulN (a := n) (b := 3) (pc := 24) d_Mo_element_24) ?_
  refine px (fun _ => pm_iconst (v := 1) (pc := 25) d_Mo_element_25 rfl) ?_
  refine px (fun _ => pm_iaddN (a := (n * 3)) (b := 1) (pc := 26) d_Mo_element_26) ?_
  refine px (fun _ => pm_iald (j := n * 3 + 1) (pc := 27) d_Mo_element_27 H.2.2.2.2.2.2.2.2.2.2.2.2.2.1 (rfl) (by omega) (by decide)) ?_
  refine px (fun _ => pm_istore (lv' := [(6, .int ((mQ T 12) (n * 3 + 1))), (5, .int (nI a)), (4, .int (nI (mA T 6 n))), (0, .ref (95)), (1, .int (nI n)), (2, .int (nI i)), (3, .int (nI j))]) (pc := 28) d_Mo_element_28 (by decide) rfl) ?_
  refine px (fun _ => pm_aload_n (pc := 30) d_Mo_element_30 rfl) ?_
  refine px (fun _ => pm_getf fl_Mo_47 (pc := 31) d_Mo_element_31 H.1 rfl) ?_
  refine px (fun _ => pm_iload_n (pc := 34) d_Mo_element_34 rfl) ?_
  refine px (fun _ => pm_iconst (v := 3) (pc := 35) d_Mo_element_35 rfl) ?_
  refine px (fun _ => pm_imulN (a := n) (b := 3) (pc := 36) d_Mo_element_36) ?_
  refine px (fun _ => pm_iconst (v := 2) (pc := 37) d_Mo_element_37 rfl) ?_
  refine px (fun _ => pm_iaddN (a := (n * 3)) (b := 2) (pc := 38) d_Mo_element_38) ?_
  refine px (fun _ => pm_iald (j := n * 3 + 2) (pc := 39) d_Mo_element_39 H.2.2.2.2.2.2.2.2.2.2.2.2.2.1 (rfl) (by omega) (by decide)) ?_
  refine px (fun _ => pm_istore (lv' := [(7, .int ((mQ T 12) (n * 3 + 2))), (6, .int ((mQ T 12) (n * 3 + 1))), (5, .int (nI a)), (4, .int (nI (mA T 6 n))), (0, .ref (95)), (1, .int (nI n)), (2, .int (nI i)), (3, .int (nI j))]) (pc := 40) d_Mo_element_40 (by decide) rfl) ?_
  refine px (fun _ => pm_iload (pc := 42) d_Mo_element_42 rfl) ?_
  have tx_44 : (nI (mA T 6 n) : Int32).toInt = 10 := by rw [hop]; rfl
  refine px (fun _ => pm_tabIn (off := 254) (tgt := 298) (pc := 44) d_Mo_element_44 (by rw [tx_44]; decide) (by rw [tx_44]; decide) (by rw [tx_44]; rfl) (by decide)) ?_
  refine px (fun _ => pm_aload_n (pc := 298) d_Mo_element_298 rfl) ?_
  refine px (fun _ => pm_iload (pc := 299) d_Mo_element_299 rfl) ?_
  refine px (fun _ => pm_iload_n (pc := 301) d_Mo_element_301 rfl) ?_
  refine px (fun _ => pm_iload_n (pc := 302) d_Mo_element_302 rfl) ?_
  refine px (fun _ => pm_aload_n (pc := 303) d_Mo_element_303 rfl) ?_
  refine px (fun _ => pm_getf fl_Mo_35 (pc := 304) d_Mo_element_304 H.1 rfl) ?_
  refine px (fun _ => pm_iload_n (pc := 307) d_Mo_element_307 rfl) ?_
  refine px (fun _ => pm_iald (j := n) (pc := 308) d_Mo_element_308 H.2.2.2.2.2.2.2.2.2.1 (rfl) (hn) (by decide)) ?_
  refine pxn (fun _ => pm_if_ne (pc := 309) (tgt := 316) d_Mo_element_309 (by decide)) (fun c_1 => ?_) (fun c_1 => absurd c_1 (fun q => absurd (hp.symm.trans q) (by decide)))
  refine px (fun _ => pm_iconst (v := 0) (pc := 316) d_Mo_element_316 rfl) ?_
  refine px (fun _ => k_Mo_element_317 (kc1 := 0) (ks1 := 0) (kc := 0) (ks := 0) (av := [.int (nI a), .int (nI i), .int (nI j), .int (0)]) (st := []) H.1 (m_tot00 hl H ha ta ca ra hx hty hB) rfl rfl (Nat.le_of_ble_eq_true rfl)) ?_
  exact pxr (pm_dret (pc := 320) d_Mo_element_320 rfl) (rfl)
set_option maxHeartbeats 1000000 in
set_option maxRecDepth 20000 in
theorem e_11_0 {l : Launch} {G : pm_G} {fi : Bool} {h : pm_H} {S : gS} {T : mS} {n a i j : Nat} (hl : l.stackTraces = false) (H : mH T h) (hn : n < 14) (hop : mA T 6 n = 11) (hi4 : i < 4) (hj4 : j < 4) (ea : mQ T 12 (n * 3) = nI a) (ha : a < 20) (ta : mTb S T a) (ca : mCl S T a) (ra : g_rng S a) (hx : i < gT S a 1) (hp : mQ T 8 n = 1) : pm_En l G fi fi 0 0 M_Mo_element [.ref (95), .int (nI n), .int (nI i), .int (nI j)] h (.inl (some (.double (g_mx (g_c1 S a i) (gT S a 2 - 1)))), h) := by
  refine pm_Cn.eq (pm_Cn.of hl (by decide) (Nat.le_of_ble_eq_true rfl) ?_)
  obtain ⟨r1, r2, r3, r4, r5⟩ := id ra
  refine px (fun _ => pm_aload_n (pc := 0) d_Mo_element_0 rfl) ?_
  refine px (fun _ => pm_getf fl_Mo_29 (pc := 1) d_Mo_element_1 H.1 rfl) ?_
  refine px (fun _ => pm_iload_n (pc := 4) d_Mo_element_4 rfl) ?_
  refine px (fun _ => pm_iald (j := n) (pc := 5) d_Mo_element_5 H.2.2.2.2.2.2.2.1 (rfl) (hn) (by decide)) ?_
  refine px (fun _ => pm_istore (lv' := [(4, .int (nI (mA T 6 n))), (0, .ref (95)), (1, .int (nI n)), (2, .int (nI i)), (3, .int (nI j))]) (pc := 6) d_Mo_element_6 (by decide) rfl) ?_
  refine px (fun _ => pm_aload_n (pc := 8) d_Mo_element_8 rfl) ?_
  refine px (fun _ => pm_getf fl_Mo_47 (pc := 9) d_Mo_element_9 H.1 rfl) ?_
  refine px (fun _ => pm_iload_n (pc := 12) d_Mo_element_12 rfl) ?_
  refine px (fun _ => pm_iconst (v := 3) (pc := 13) d_Mo_element_13 rfl) ?_
  refine px (fun _ => pm_imulN (a := n) (b := 3) (pc := 14) d_Mo_element_14) ?_
  refine px (fun _ => pm_iald (j := n * 3) (pc := 15) d_Mo_element_15 H.2.2.2.2.2.2.2.2.2.2.2.2.2.1 (rfl) (by omega) (by decide)) ?_
  rw [ea]
  refine px (fun _ => pm_istore (lv' := [(5, .int (nI a)), (4, .int (nI (mA T 6 n))), (0, .ref (95)), (1, .int (nI n)), (2, .int (nI i)), (3, .int (nI j))]) (pc := 16) d_Mo_element_16 (by decide) rfl) ?_
  refine px (fun _ => pm_aload_n (pc := 18) d_Mo_element_18 rfl) ?_
  refine px (fun _ => pm_getf fl_Mo_47 (pc := 19) d_Mo_element_19 H.1 rfl) ?_
  refine px (fun _ => pm_iload_n (pc := 22) d_Mo_element_22 rfl) ?_
  refine px (fun _ => pm_iconst (v := 3) (pc := 23) d_Mo_element_23 rfl) ?_
  refine px (fun _ => pm_imulN (a := n) (b := 3) (pc := 24) d_Mo_element_24) ?_
  refine px (fun _ => pm_iconst (v := 1) (pc := 25) d_Mo_element_25 rfl) ?_
  refine px (fun _ => pm_iaddN (a := (n * 3)) (b := 1) (pc := 26) d_Mo_element_26) ?_
  refine px (fun _ => pm_iald (j := n * 3 + 1) (pc := 27) d_Mo_element_27 H.2.2.2.2.2.2.2.2.2.2.2.2.2.1 (rfl) (by omega) (by decide)) ?_
  refine px (fun _ => pm_istore (lv' := [(6, .int ((mQ T 12) (n * 3 + 1))), (5, .int (nI a)), (4, .int (nI (mA T 6 n))), (0, .ref (95)), (1, .int (nI n)), (2, .int (nI i)), (3, .int (nI j))]) (pc := 28) d_Mo_element_28 (by decide) rfl) ?_
  refine px (fun _ => pm_aload_n (pc := 30) d_Mo_element_30 rfl) ?_
  refine px (fun _ => pm_getf fl_Mo_47 (pc := 31) d_Mo_element_31 H.1 rfl) ?_
  refine px (fun _ => pm_iload_n (pc := 34) d_Mo_element_34 rfl) ?_
  refine px (fun _ => pm_iconst (v := 3) (pc := 35) d_Mo_element_35 rfl) ?_
  refine px (fun _ => pm_imulN (a := n) (b := 3) (pc := 36) d_Mo_element_36) ?_
  refine px (fun _ => pm_iconst (v := 2) (pc := 37) d_Mo_element_37 rfl) ?_
  refine px (fun _ => pm_iaddN (a := (n * 3)) (b := 2) (pc := 38) d_Mo_element_38) ?_
  refine px (fun _ => pm_iald (j := n * 3 + 2) (pc := 39) d_Mo_element_39 H.2.2.2.2.2.2.2.2.2.2.2.2.2.1 (rfl) (by omega) (by decide)) ?_
  refine px (fun _ => pm_istore (lv' := [(7, .int ((mQ T 12) (n * 3 + 2))), (6, .int ((mQ T 12) (n * 3 + 1))), (5, .int (nI a)), (4, .int (nI (mA T 6 n))), (0, .ref (95)), (1, .int (nI n)), (2, .int (nI i)), (3, .int (nI j))]) (pc := 40) d_Mo_element_40 (by decide) rfl) ?_
  refine px (fun _ => pm_iload (pc := 42) d_Mo_element_42 rfl) ?_
  have tx_44 : (nI (mA T 6 n) : Int32).toInt = 11 := by rw [hop]; rfl
  refine px (fun _ => pm_tabIn (off := 277) (tgt := 321) (pc := 44) d_Mo_element_44 (by rw [tx_44]; decide) (by rw [tx_44]; decide) (by rw [tx_44]; rfl) (by decide)) ?_
  refine px (fun _ => pm_aload_n (pc := 321) d_Mo_element_321 rfl) ?_
  refine px (fun _ => pm_getf fl_Mo_35 (pc := 322) d_Mo_element_322 H.1 rfl) ?_
  refine px (fun _ => pm_iload_n (pc := 325) d_Mo_element_325 rfl) ?_
  refine px (fun _ => pm_iald (j := n) (pc := 326) d_Mo_element_326 H.2.2.2.2.2.2.2.2.2.1 (rfl) (hn) (by decide)) ?_
  refine pxn (fun _ => pm_if_ne (pc := 327) (tgt := 349) d_Mo_element_327 (by decide)) (fun c_1 => ?_) (fun c_1 => absurd c_1 (fun q => absurd (hp.symm.trans q) (by decide)))
  refine px (fun _ => pm_aload_n (pc := 349) d_Mo_element_349 rfl) ?_
  refine px (fun _ => pm_iload (pc := 350) d_Mo_element_350 rfl) ?_
  refine px (fun _ => pm_iload_n (pc := 352) d_Mo_element_352 rfl) ?_
  refine px (fun _ => pm_aload_n (pc := 353) d_Mo_element_353 rfl) ?_
  refine px (fun _ => pm_iload (pc := 354) d_Mo_element_354 rfl) ?_
  refine px (fun _ => pm_iload_n (pc := 356) d_Mo_element_356 rfl) ?_
  refine px (fun _ => pm_iload_n (pc := 357) d_Mo_element_357 rfl) ?_
  refine px (fun _ => pm_iconst (v := 0) (pc := 358) d_Mo_element_358 rfl) ?_
  refine px (fun _ => k_Mo_element_359 (kc1 := 0) (ks1 := 0) (kc := 0) (ks := 0) (av := [.int (nI a), .int (nI i), .int (nI j), .int (0)]) (st := [.int (nI i), .int (nI a), .ref (95)]) H.1 (m_fst0 hl H ha ta ca ra hx) rfl rfl (Nat.le_of_ble_eq_true rfl)) ?_
  refine px (fun _ => k_Mo_element_362 (kc1 := 0) (ks1 := 0) (kc := 0) (ks := 0) (av := [.int (nI a), .int (nI i), .int (nI (g_fi (g_c1 S a i) (gT S a 2 - 1)))]) (st := []) H.1 (m_at2 hl H ha ta ca ra (hx) (Nat.lt_of_le_of_lt (g_fi_le _ _) (by omega))) rfl rfl (Nat.le_of_ble_eq_true rfl)) ?_
  exact pxr (pm_dret (pc := 365) d_Mo_element_365 rfl) (by rw [g_mx_fi])
set_option maxHeartbeats 1000000 in
set_option maxRecDepth 20000 in
theorem e_12 {l : Launch} {G : pm_G} {fi : Bool} {h : pm_H} {S : gS} {T : mS} {n a i j : Nat} (hl : l.stackTraces = false) (H : mH T h) (hn : n < 14) (hop : mA T 6 n = 12) (hi4 : i < 4) (hj4 : j < 4) (ea : mQ T 12 (n * 3) = nI a) (ha : a < 20) (ta : mTb S T a) (ca : mCl S T a) (ra : g_rng S a) (hx : i < gT S a 1) : pm_En l G fi fi 0 0 M_Mo_element [.ref (95), .int (nI n), .int (nI i), .int (nI j)] h (.inl (some (.double (FP.i2d (nI (g_fi (g_c1 S a i) (gT S a 2 - 1)))))), h) := by
  refine pm_Cn.eq (pm_Cn.of hl (by decide) (Nat.le_of_ble_eq_true rfl) ?_)
  obtain ⟨r1, r2, r3, r4, r5⟩ := id ra
  refine px (fun _ => pm_aload_n (pc := 0) d_Mo_element_0 rfl) ?_
  refine px (fun _ => pm_getf fl_Mo_29 (pc := 1) d_Mo_element_1 H.1 rfl) ?_
  refine px (fun _ => pm_iload_n (pc := 4) d_Mo_element_4 rfl) ?_
  refine px (fun _ => pm_iald (j := n) (pc := 5) d_Mo_element_5 H.2.2.2.2.2.2.2.1 (rfl) (hn) (by decide)) ?_
  refine px (fun _ => pm_istore (lv' := [(4, .int (nI (mA T 6 n))), (0, .ref (95)), (1, .int (nI n)), (2, .int (nI i)), (3, .int (nI j))]) (pc := 6) d_Mo_element_6 (by decide) rfl) ?_
  refine px (fun _ => pm_aload_n (pc := 8) d_Mo_element_8 rfl) ?_
  refine px (fun _ => pm_getf fl_Mo_47 (pc := 9) d_Mo_element_9 H.1 rfl) ?_
  refine px (fun _ => pm_iload_n (pc := 12) d_Mo_element_12 rfl) ?_
  refine px (fun _ => pm_iconst (v := 3) (pc := 13) d_Mo_element_13 rfl) ?_
  refine px (fun _ => pm_imulN (a := n) (b := 3) (pc := 14) d_Mo_element_14) ?_
  refine px (fun _ => pm_iald (j := n * 3) (pc := 15) d_Mo_element_15 H.2.2.2.2.2.2.2.2.2.2.2.2.2.1 (rfl) (by omega) (by decide)) ?_
  rw [ea]
  refine px (fun _ => pm_istore (lv' := [(5, .int (nI a)), (4, .int (nI (mA T 6 n))), (0, .ref (95)), (1, .int (nI n)), (2, .int (nI i)), (3, .int (nI j))]) (pc := 16) d_Mo_element_16 (by decide) rfl) ?_
  refine px (fun _ => pm_aload_n (pc := 18) d_Mo_element_18 rfl) ?_
  refine px (fun _ => pm_getf fl_Mo_47 (pc := 19) d_Mo_element_19 H.1 rfl) ?_
  refine px (fun _ => pm_iload_n (pc := 22) d_Mo_element_22 rfl) ?_
  refine px (fun _ => pm_iconst (v := 3) (pc := 23) d_Mo_element_23 rfl) ?_
  refine px (fun _ => pm_imulN (a := n) (b := 3) (pc := 24) d_Mo_element_24) ?_
  refine px (fun _ => pm_iconst (v := 1) (pc := 25) d_Mo_element_25 rfl) ?_
  refine px (fun _ => pm_iaddN (a := (n * 3)) (b := 1) (pc := 26) d_Mo_element_26) ?_
  refine px (fun _ => pm_iald (j := n * 3 + 1) (pc := 27) d_Mo_element_27 H.2.2.2.2.2.2.2.2.2.2.2.2.2.1 (rfl) (by omega) (by decide)) ?_
  refine px (fun _ => pm_istore (lv' := [(6, .int ((mQ T 12) (n * 3 + 1))), (5, .int (nI a)), (4, .int (nI (mA T 6 n))), (0, .ref (95)), (1, .int (nI n)), (2, .int (nI i)), (3, .int (nI j))]) (pc := 28) d_Mo_element_28 (by decide) rfl) ?_
  refine px (fun _ => pm_aload_n (pc := 30) d_Mo_element_30 rfl) ?_
  refine px (fun _ => pm_getf fl_Mo_47 (pc := 31) d_Mo_element_31 H.1 rfl) ?_
  refine px (fun _ => pm_iload_n (pc := 34) d_Mo_element_34 rfl) ?_
  refine px (fun _ => pm_iconst (v := 3) (pc := 35) d_Mo_element_35 rfl) ?_
  refine px (fun _ => pm_imulN (a := n) (b := 3) (pc := 36) d_Mo_element_36) ?_
  refine px (fun _ => pm_iconst (v := 2) (pc := 37) d_Mo_element_37 rfl) ?_
  refine px (fun _ => pm_iaddN (a := (n * 3)) (b := 2) (pc := 38) d_Mo_element_38) ?_
  refine px (fun _ => pm_iald (j := n * 3 + 2) (pc := 39) d_Mo_element_39 H.2.2.2.2.2.2.2.2.2.2.2.2.2.1 (rfl) (by omega) (by decide)) ?_
  refine px (fun _ => pm_istore (lv' := [(7, .int ((mQ T 12) (n * 3 + 2))), (6, .int ((mQ T 12) (n * 3 + 1))), (5, .int (nI a)), (4, .int (nI (mA T 6 n))), (0, .ref (95)), (1, .int (nI n)), (2, .int (nI i)), (3, .int (nI j))]) (pc := 40) d_Mo_element_40 (by decide) rfl) ?_
  refine px (fun _ => pm_iload (pc := 42) d_Mo_element_42 rfl) ?_
  have tx_44 : (nI (mA T 6 n) : Int32).toInt = 12 := by rw [hop]; rfl
  refine px (fun _ => pm_tabIn (off := 322) (tgt := 366) (pc := 44) d_Mo_element_44 (by rw [tx_44]; decide) (by rw [tx_44]; decide) (by rw [tx_44]; rfl) (by decide)) ?_
  refine px (fun _ => pm_aload_n (pc := 366) d_Mo_element_366 rfl) ?_
  refine px (fun _ => pm_iload (pc := 367) d_Mo_element_367 rfl) ?_
  refine px (fun _ => pm_iload_n (pc := 369) d_Mo_element_369 rfl) ?_
  refine px (fun _ => pm_iconst (v := 0) (pc := 370) d_Mo_element_370 rfl) ?_
  refine px (fun _ => pm_iconst (v := 0) (pc := 371) d_Mo_element_371 rfl) ?_
  refine px (fun _ => k_Mo_element_372 (kc1 := 0) (ks1 := 0) (kc := 0) (ks := 0) (av := [.int (nI a), .int (nI i), .int (0), .int (0)]) (st := []) H.1 (m_fst0 (j := 0) hl H ha ta ca ra hx) rfl rfl (Nat.le_of_ble_eq_true rfl)) ?_
  refine px (fun _ => pm_i2d (pc := 375) d_Mo_element_375) ?_
  exact pxr (pm_dret (pc := 376) d_Mo_element_376 rfl) (rfl)
set_option maxHeartbeats 1000000 in
set_option maxRecDepth 20000 in
theorem e_13_0 {l : Launch} {G : pm_G} {fi : Bool} {h : pm_H} {S : gS} {T : mS} {n a b i j : Nat} (hl : l.stackTraces = false) (H : mH T h) (hn : n < 14) (hop : mA T 6 n = 13) (hi4 : i < 4) (hj4 : j < 4) (ea : mQ T 12 (n * 3) = nI a) (ha : a < 20) (ta : mTb S T a) (ca : mCl S T a) (ra : g_rng S a) (eb : mQ T 12 (n * 3 + 1) = nI b) (hb : b < 20) (tb : mTb S T b) (cb : mCl S T b) (rb : g_rng S b) (hp : mQ T 8 n = 0) (hi : i < gT S a 1 + gT S b 1) (hja : j < gT S a 2) (hjb : j < gT S b 2) : pm_En l G fi fi 0 0 M_Mo_element [.ref (95), .int (nI n), .int (nI i), .int (nI j)] h (.inl (some (.double (if i < gT S a 1 then gC S a (i * 4 + j) else gC S b ((i - gT S a 1) * 4 + j)))), h) := by
  refine pm_Cn.eq (pm_Cn.of hl (by decide) (Nat.le_of_ble_eq_true rfl) ?_)
  obtain ⟨r1, r2, r3, r4, r5⟩ := id ra
  obtain ⟨s1, s2, s3, s4, s5⟩ := id rb
  refine px (fun _ => pm_aload_n (pc := 0) d_Mo_element_0 rfl) ?_
  refine px (fun _ => pm_getf fl_Mo_29 (pc := 1) d_Mo_element_1 H.1 rfl) ?_
  refine px (fun _ => pm_iload_n (pc := 4) d_Mo_element_4 rfl) ?_
  refine px (fun _ => pm_iald (j := n) (pc := 5) d_Mo_element_5 H.2.2.2.2.2.2.2.1 (rfl) (hn) (by decide)) ?_
  refine px (fun _ => pm_istore (lv' := [(4, .int (nI (mA T 6 n))), (0, .ref (95)), (1, .int (nI n)), (2, .int (nI i)), (3, .int (nI j))]) (pc := 6) d_Mo_element_6 (by decide) rfl) ?_
  refine px (fun _ => pm_aload_n (pc := 8) d_Mo_element_8 rfl) ?_
  refine px (fun _ => pm_getf fl_Mo_47 (pc := 9) d_Mo_element_9 H.1 rfl) ?_
  refine px (fun _ => pm_iload_n (pc := 12) d_Mo_element_12 rfl) ?_
  refine px (fun _ => pm_iconst (v := 3) (pc := 13) d_Mo_element_13 rfl) ?_
  refine px (fun _ => pm_imulN (a := n) (b := 3) (pc := 14) d_Mo_element_14) ?_
  refine px (fun _ => pm_iald (j := n * 3) (pc := 15) d_Mo_element_15 H.2.2.2.2.2.2.2.2.2.2.2.2.2.1 (rfl) (by omega) (by decide)) ?_
  rw [ea]
  refine px (fun _ => pm_istore (lv' := [(5, .int (nI a)), (4, .int (nI (mA T 6 n))), (0, .ref (95)), (1, .int (nI n)), (2, .int (nI i)), (3, .int (nI j))]) (pc := 16) d_Mo_element_16 (by decide) rfl) ?_
  refine px (fun _ => pm_aload_n (pc := 18) d_Mo_element_18 rfl) ?_
  refine px (fun _ => pm_getf fl_Mo_47 (pc := 19) d_Mo_element_19 H.1 rfl) ?_
  refine px (fun _ => pm_iload_n (pc := 22) d_Mo_element_22 rfl) ?_
  refine px (fun _ => pm_iconst (v := 3) (pc := 23) d_Mo_element_23 rfl) ?_
  refine px (fun _ => pm_imulN (a := n) (b := 3) (pc := 24) d_Mo_element_24) ?_
  refine px (fun _ => pm_iconst (v := 1) (pc := 25) d_Mo_element_25 rfl) ?_
  refine px (fun _ => pm_iaddN (a := (n * 3)) (b := 1) (pc := 26) d_Mo_element_26) ?_
  refine px (fun _ => pm_iald (j := n * 3 + 1) (pc := 27) d_Mo_element_27 H.2.2.2.2.2.2.2.2.2.2.2.2.2.1 (rfl) (by omega) (by decide)) ?_
  rw [eb]
  refine px (fun _ => pm_istore (lv' := [(6, .int (nI b)), (5, .int (nI a)), (4, .int (nI (mA T 6 n))), (0, .ref (95)), (1, .int (nI n)), (2, .int (nI i)), (3, .int (nI j))]) (pc := 28) d_Mo_element_28 (by decide) rfl) ?_
  refine px (fun _ => pm_aload_n (pc := 30) d_Mo_element_30 rfl) ?_
  refine px (fun _ => pm_getf fl_Mo_47 (pc := 31) d_Mo_element_31 H.1 rfl) ?_
  refine px (fun _ => pm_iload_n (pc := 34) d_Mo_element_34 rfl) ?_
  refine px (fun _ => pm_iconst (v := 3) (pc := 35) d_Mo_element_35 rfl) ?_
  refine px (fun _ => pm_imulN (a := n) (b := 3) (pc := 36) d_Mo_element_36) ?_
  refine px (fun _ => pm_iconst (v := 2) (pc := 37) d_Mo_element_37 rfl) ?_
  refine px (fun _ => pm_iaddN (a := (n * 3)) (b := 2) (pc := 38) d_Mo_element_38) ?_
  refine px (fun _ => pm_iald (j := n * 3 + 2) (pc := 39) d_Mo_element_39 H.2.2.2.2.2.2.2.2.2.2.2.2.2.1 (rfl) (by omega) (by decide)) ?_
  refine px (fun _ => pm_istore (lv' := [(7, .int ((mQ T 12) (n * 3 + 2))), (6, .int (nI b)), (5, .int (nI a)), (4, .int (nI (mA T 6 n))), (0, .ref (95)), (1, .int (nI n)), (2, .int (nI i)), (3, .int (nI j))]) (pc := 40) d_Mo_element_40 (by decide) rfl) ?_
  refine px (fun _ => pm_iload (pc := 42) d_Mo_element_42 rfl) ?_
  have tx_44 : (nI (mA T 6 n) : Int32).toInt = 13 := by rw [hop]; rfl
  refine px (fun _ => pm_tabIn (off := 333) (tgt := 377) (pc := 44) d_Mo_element_44 (by rw [tx_44]; decide) (by rw [tx_44]; decide) (by rw [tx_44]; rfl) (by decide)) ?_
  refine px (fun _ => pm_aload_n (pc := 377) d_Mo_element_377 rfl) ?_
  refine px (fun _ => pm_iload_n (pc := 378) d_Mo_element_378 rfl) ?_
  refine px (fun _ => pm_iload (pc := 379) d_Mo_element_379 rfl) ?_
  refine px (fun _ => pm_iload (pc := 381) d_Mo_element_381 rfl) ?_
  refine px (fun _ => pm_iload_n (pc := 383) d_Mo_element_383 rfl) ?_
  refine px (fun _ => pm_iload_n (pc := 384) d_Mo_element_384 rfl) ?_
  refine px (fun _ => k_Mo_element_385 (kc1 := 0) (ks1 := 0) (kc := 0) (ks := 0) (av := [.int (nI n), .int (nI a), .int (nI b), .int (nI i), .int (nI j)]) (st := []) H.1 (m_join0 hl H hn ha ta ca ra hb tb cb rb hp hi hja hjb) rfl rfl (Nat.le_of_ble_eq_true rfl)) ?_
  exact pxr (pm_dret (pc := 388) d_Mo_element_388 rfl) (rfl)
set_option maxHeartbeats 1000000 in
set_option maxRecDepth 20000 in
theorem e_13_1 {l : Launch} {G : pm_G} {fi : Bool} {h : pm_H} {S : gS} {T : mS} {n a b i j : Nat} (hl : l.stackTraces = false) (H : mH T h) (hn : n < 14) (hop : mA T 6 n = 13) (hi4 : i < 4) (hj4 : j < 4) (ea : mQ T 12 (n * 3) = nI a) (ha : a < 20) (ta : mTb S T a) (ca : mCl S T a) (ra : g_rng S a) (eb : mQ T 12 (n * 3 + 1) = nI b) (hb : b < 20) (tb : mTb S T b) (cb : mCl S T b) (rb : g_rng S b) (hp : mQ T 8 n = 1) (hj : j < gT S a 2 + gT S b 2) (hia : i < gT S a 1) (hib : i < gT S b 1) : pm_En l G fi fi 0 0 M_Mo_element [.ref (95), .int (nI n), .int (nI i), .int (nI j)] h (.inl (some (.double (if j < gT S a 2 then gC S a (i * 4 + j) else gC S b (i * 4 + (j - gT S a 2))))), h) := by
  refine pm_Cn.eq (pm_Cn.of hl (by decide) (Nat.le_of_ble_eq_true rfl) ?_)
  obtain ⟨r1, r2, r3, r4, r5⟩ := id ra
  obtain ⟨s1, s2, s3, s4, s5⟩ := id rb
  refine px (fun _ => pm_aload_n (pc := 0) d_Mo_element_0 rfl) ?_
  refine px (fun _ => pm_getf fl_Mo_29 (pc := 1) d_Mo_element_1 H.1 rfl) ?_
  refine px (fun _ => pm_iload_n (pc := 4) d_Mo_element_4 rfl) ?_
  refine px (fun _ => pm_iald (j := n) (pc := 5) d_Mo_element_5 H.2.2.2.2.2.2.2.1 (rfl) (hn) (by decide)) ?_
  refine px (fun _ => pm_istore (lv' := [(4, .int (nI (mA T 6 n))), (0, .ref (95)), (1, .int (nI n)), (2, .int (nI i)), (3, .int (nI j))]) (pc := 6) d_Mo_element_6 (by decide) rfl) ?_
  refine px (fun _ => pm_aload_n (pc := 8) d_Mo_element_8 rfl) ?_
  refine px (fun _ => pm_getf fl_Mo_47 (pc := 9) d_Mo_element_9 H.1 rfl) ?_
  refine px (fun _ => pm_iload_n (pc := 12) d_Mo_element_12 rfl) ?_
  refine px (fun _ => pm_iconst (v := 3) (pc := 13) d_Mo_element_13 rfl) ?_
  refine px (fun _ => pm_imulN (a := n) (b := 3) (pc := 14) d_Mo_element_14) ?_
  refine px (fun _ => pm_iald (j := n * 3) (pc := 15) d_Mo_element_15 H.2.2.2.2.2.2.2.2.2.2.2.2.2.1 (rfl) (by omega) (by decide)) ?_
  rw [ea]
  refine px (fun _ => pm_istore (lv' := [(5, .int (nI a)), (4, .int (nI (mA T 6 n))), (0, .ref (95)), (1, .int (nI n)), (2, .int (nI i)), (3, .int (nI j))]) (pc := 16) d_Mo_element_16 (by decide) rfl) ?_
  refine px (fun _ => pm_aload_n (pc := 18) d_Mo_element_18 rfl) ?_
  refine px (fun _ => pm_getf fl_Mo_47 (pc := 19) d_Mo_element_19 H.1 rfl) ?_
  refine px (fun _ => pm_iload_n (pc := 22) d_Mo_element_22 rfl) ?_
  refine px (fun _ => pm_iconst (v := 3) (pc := 23) d_Mo_element_23 rfl) ?_
  refine px (fun _ => pm_imulN (a := n) (b := 3) (pc := 24) d_Mo_element_24) ?_
  refine px (fun _ => pm_iconst (v := 1) (pc := 25) d_Mo_element_25 rfl) ?_
  refine px (fun _ => pm_iaddN (a := (n * 3)) (b := 1) (pc := 26) d_Mo_element_26) ?_
  refine px (fun _ => pm_iald (j := n * 3 + 1) (pc := 27) d_Mo_element_27 H.2.2.2.2.2.2.2.2.2.2.2.2.2.1 (rfl) (by omega) (by decide)) ?_
  rw [eb]
  refine px (fun _ => pm_istore (lv' := [(6, .int (nI b)), (5, .int (nI a)), (4, .int (nI (mA T 6 n))), (0, .ref (95)), (1, .int (nI n)), (2, .int (nI i)), (3, .int (nI j))]) (pc := 28) d_Mo_element_28 (by decide) rfl) ?_
  refine px (fun _ => pm_aload_n (pc := 30) d_Mo_element_30 rfl) ?_
  refine px (fun _ => pm_getf fl_Mo_47 (pc := 31) d_Mo_element_31 H.1 rfl) ?_
  refine px (fun _ => pm_iload_n (pc := 34) d_Mo_element_34 rfl) ?_
  refine px (fun _ => pm_iconst (v := 3) (pc := 35) d_Mo_element_35 rfl) ?_
  refine px (fun _ => pm_imulN (a := n) (b := 3) (pc := 36) d_Mo_element_36) ?_
  refine px (fun _ => pm_iconst (v := 2) (pc := 37) d_Mo_element_37 rfl) ?_
  refine px (fun _ => pm_iaddN (a := (n * 3)) (b := 2) (pc := 38) d_Mo_element_38) ?_
  refine px (fun _ => pm_iald (j := n * 3 + 2) (pc := 39) d_Mo_element_39 H.2.2.2.2.2.2.2.2.2.2.2.2.2.1 (rfl) (by omega) (by decide)) ?_
  refine px (fun _ => pm_istore (lv' := [(7, .int ((mQ T 12) (n * 3 + 2))), (6, .int (nI b)), (5, .int (nI a)), (4, .int (nI (mA T 6 n))), (0, .ref (95)), (1, .int (nI n)), (2, .int (nI i)), (3, .int (nI j))]) (pc := 40) d_Mo_element_40 (by decide) rfl) ?_
  refine px (fun _ => pm_iload (pc := 42) d_Mo_element_42 rfl) ?_
  have tx_44 : (nI (mA T 6 n) : Int32).toInt = 13 := by rw [hop]; rfl
  refine px (fun _ => pm_tabIn (off := 333) (tgt := 377) (pc := 44) d_Mo_element_44 (by rw [tx_44]; decide) (by rw [tx_44]; decide) (by rw [tx_44]; rfl) (by decide)) ?_
  refine px (fun _ => pm_aload_n (pc := 377) d_Mo_element_377 rfl) ?_
  refine px (fun _ => pm_iload_n (pc := 378) d_Mo_element_378 rfl) ?_
  refine px (fun _ => pm_iload (pc := 379) d_Mo_element_379 rfl) ?_
  refine px (fun _ => pm_iload (pc := 381) d_Mo_element_381 rfl) ?_
  refine px (fun _ => pm_iload_n (pc := 383) d_Mo_element_383 rfl) ?_
  refine px (fun _ => pm_iload_n (pc := 384) d_Mo_element_384 rfl) ?_
  refine px (fun _ => k_Mo_element_385 (kc1 := 0) (ks1 := 0) (kc := 0) (ks := 0) (av := [.int (nI n), .int (nI a), .int (nI b), .int (nI i), .int (nI j)]) (st := []) H.1 (m_join1 hl H hn ha ta ca ra hb tb cb rb hp hj hia hib) rfl rfl (Nat.le_of_ble_eq_true rfl)) ?_
  exact pxr (pm_dret (pc := 388) d_Mo_element_388 rfl) (rfl)
set_option maxHeartbeats 1000000 in
set_option maxRecDepth 20000 in
theorem e_14 {l : Launch} {G : pm_G} {fi : Bool} {h : pm_H} {S : gS} {T : mS} {n a i j p : Nat} (hl : l.stackTraces = false) (H : mH T h) (hn : n < 14) (hop : mA T 6 n = 14) (hi4 : i < 4) (hj4 : j < 4) (ea : mQ T 12 (n * 3) = nI a) (ha : a < 20) (ta : mTb S T a) (ca : mCl S T a) (ra : g_rng S a) (hp : mQ T 8 n = nI p) (hi : p + i < gT S a 1) (hj : j < gT S a 2) : pm_En l G fi fi 0 0 M_Mo_element [.ref (95), .int (nI n), .int (nI i), .int (nI j)] h (.inl (some (.double (gC S a ((p + i) * 4 + j)))), h) := by
  refine pm_Cn.eq (pm_Cn.of hl (by decide) (Nat.le_of_ble_eq_true rfl) ?_)
  obtain ⟨r1, r2, r3, r4, r5⟩ := id ra
  refine px (fun _ => pm_aload_n (pc := 0) d_Mo_element_0 rfl) ?_
  refine px (fun _ => pm_getf fl_Mo_29 (pc := 1) d_Mo_element_1 H.1 rfl) ?_
  refine px (fun _ => pm_iload_n (pc := 4) d_Mo_element_4 rfl) ?_
  refine px (fun _ => pm_iald (j := n) (pc := 5) d_Mo_element_5 H.2.2.2.2.2.2.2.1 (rfl) (hn) (by decide)) ?_
  refine px (fun _ => pm_istore (lv' := [(4, .int (nI (mA T 6 n))), (0, .ref (95)), (1, .int (nI n)), (2, .int (nI i)), (3, .int (nI j))]) (pc := 6) d_Mo_element_6 (by decide) rfl) ?_
  refine px (fun _ => pm_aload_n (pc := 8) d_Mo_element_8 rfl) ?_
  refine px (fun _ => pm_getf fl_Mo_47 (pc := 9) d_Mo_element_9 H.1 rfl) ?_
  refine px (fun _ => pm_iload_n (pc := 12) d_Mo_element_12 rfl) ?_
  refine px (fun _ => pm_iconst (v := 3) (pc := 13) d_Mo_element_13 rfl) ?_
  refine px (fun _ => pm_imulN (a := n) (b := 3) (pc := 14) d_Mo_element_14) ?_
  refine px (fun _ => pm_iald (j := n * 3) (pc := 15) d_Mo_element_15 H.2.2.2.2.2.2.2.2.2.2.2.2.2.1 (rfl) (by omega) (by decide)) ?_
  rw [ea]
  refine px (fun _ => pm_istore (lv' := [(5, .int (nI a)), (4, .int (nI (mA T 6 n))), (0, .ref (95)), (1, .int (nI n)), (2, .int (nI i)), (3, .int (nI j))]) (pc := 16) d_Mo_element_16 (by decide) rfl) ?_
  refine px (fun _ => pm_aload_n (pc := 18) d_Mo_element_18 rfl) ?_
  refine px (fun _ => pm_getf fl_Mo_47 (pc := 19) d_Mo_element_19 H.1 rfl) ?_
  refine px (fun _ => pm_iload_n (pc := 22) d_Mo_element_22 rfl) ?_
  refine px (fun _ => pm_iconst (v := 3) (pc := 23) d_Mo_element_23 rfl) ?_
  refine px (fun _ => pm_imulN (a := n) (b := 3) (pc := 24) d_Mo_element_24) ?_
  refine px (fun _ => pm_iconst (v := 1) (pc := 25) d_Mo_element_25 rfl) ?_
  refine px (fun _ => pm_iaddN (a := (n * 3)) (b := 1) (pc := 26) d_Mo_element_26) ?_
  refine px (fun _ => pm_iald (j := n * 3 + 1) (pc := 27) d_Mo_element_27 H.2.2.2.2.2.2.2.2.2.2.2.2.2.1 (rfl) (by omega) (by decide)) ?_
  refine px (fun _ => pm_istore (lv' := [(6, .int ((mQ T 12) (n * 3 + 1))), (5, .int (nI a)), (4, .int (nI (mA T 6 n))), (0, .ref (95)), (1, .int (nI n)), (2, .int (nI i)), (3, .int (nI j))]) (pc := 28) d_Mo_element_28 (by decide) rfl) ?_
  refine px (fun _ => pm_aload_n (pc := 30) d_Mo_element_30 rfl) ?_
  refine px (fun _ => pm_getf fl_Mo_47 (pc := 31) d_Mo_element_31 H.1 rfl) ?_
  refine px (fun _ => pm_iload_n (pc := 34) d_Mo_element_34 rfl) ?_
  refine px (fun _ => pm_iconst (v := 3) (pc := 35) d_Mo_element_35 rfl) ?_
  refine px (fun _ => pm_imulN (a := n) (b := 3) (pc := 36) d_Mo_element_36) ?_
  refine px (fun _ => pm_iconst (v := 2) (pc := 37) d_Mo_element_37 rfl) ?_
  refine px (fun _ => pm_iaddN (a := (n * 3)) (b := 2) (pc := 38) d_Mo_element_38) ?_
  refine px (fun _ => pm_iald (j := n * 3 + 2) (pc := 39) d_Mo_element_39 H.2.2.2.2.2.2.2.2.2.2.2.2.2.1 (rfl) (by omega) (by decide)) ?_
  refine px (fun _ => pm_istore (lv' := [(7, .int ((mQ T 12) (n * 3 + 2))), (6, .int ((mQ T 12) (n * 3 + 1))), (5, .int (nI a)), (4, .int (nI (mA T 6 n))), (0, .ref (95)), (1, .int (nI n)), (2, .int (nI i)), (3, .int (nI j))]) (pc := 40) d_Mo_element_40 (by decide) rfl) ?_
  refine px (fun _ => pm_iload (pc := 42) d_Mo_element_42 rfl) ?_
  have tx_44 : (nI (mA T 6 n) : Int32).toInt = 14 := by rw [hop]; rfl
  refine px (fun _ => pm_tabIn (off := 345) (tgt := 389) (pc := 44) d_Mo_element_44 (by rw [tx_44]; decide) (by rw [tx_44]; decide) (by rw [tx_44]; rfl) (by decide)) ?_
  refine px (fun _ => pm_aload_n (pc := 389) d_Mo_element_389 rfl) ?_
  refine px (fun _ => pm_getf fl_Mo_25 (pc := 390) d_Mo_element_390 H.1 rfl) ?_
  refine px (fun _ => pm_iload (pc := 393) d_Mo_element_393 rfl) ?_
  refine px (fun _ => pm_bipush (v := 16) (pc := 395) d_Mo_element_395 rfl) ?_
  refine px (fun _ => pm_imulN (a := a) (b := 16) (pc := 397) d_Mo_element_397) ?_
  refine px (fun _ => pm_iload_n (pc := 398) d_Mo_element_398 rfl) ?_
  refine px (fun _ => pm_aload_n (pc := 399) d_Mo_element_399 rfl) ?_
  refine px (fun _ => pm_getf fl_Mo_35 (pc := 400) d_Mo_element_400 H.1 rfl) ?_
  refine px (fun _ => pm_iload_n (pc := 403) d_Mo_element_403 rfl) ?_
  refine px (fun _ => pm_iald (j := n) (pc := 404) d_Mo_element_404 H.2.2.2.2.2.2.2.2.2.1 (rfl) (hn) (by decide)) ?_
  rw [hp]
  refine px (fun _ => pm_iaddN (a := i) (b := p) (pc := 405) d_Mo_element_405) ?_
  refine px (fun _ => pm_iconst (v := 4) (pc := 406) d_Mo_element_406 rfl) ?_
  refine px (fun _ => pm_imulN (a := (i + p)) (b := 4) (pc := 407) d_Mo_element_407) ?_
  refine px (fun _ => pm_iaddN (a := (a * 16)) (b := ((i + p) * 4)) (pc := 408) d_Mo_element_408) ?_
  refine px (fun _ => pm_iload_n (pc := 409) d_Mo_element_409 rfl) ?_
  refine px (fun _ => pm_iaddN (a := ((a * 16) + ((i + p) * 4))) (b := j) (pc := 410) d_Mo_element_410) ?_
  refine px (fun _ => pm_dald (j := ((a * 16) + ((i + p) * 4)) + j) (pc := 411) d_Mo_element_411 H.2.2.2.2.2.2.1 (rfl) (by omega) (by decide)) ?_
  exact pxr (pm_dret (pc := 412) d_Mo_element_412 rfl) (by rw [Nat.add_comm p i, ← ca (i + p) j (by omega) hj])
set_option maxHeartbeats 1000000 in
set_option maxRecDepth 20000 in
theorem e_15 {l : Launch} {G : pm_G} {fi : Bool} {h : pm_H} {S : gS} {T : mS} {n a b i j : Nat} (hl : l.stackTraces = false) (H : mH T h) (hn : n < 14) (hop : mA T 6 n = 15) (hi4 : i < 4) (hj4 : j < 4) (ea : mQ T 12 (n * 3) = nI a) (ha : a < 20) (ta : mTb S T a) (ca : mCl S T a) (ra : g_rng S a) (eb : mQ T 12 (n * 3 + 1) = nI b) (hb : b < 20) (tb : mTb S T b) (cb : mCl S T b) (rb : g_rng S b) (hi : i < gT S b 2) (hj : j < gT S a 2) (hin : g_inR S a b i) : pm_En l G fi fi 0 0 M_Mo_element [.ref (95), .int (nI n), .int (nI i), .int (nI j)] h (.inl (some (.double (g_pe S a b i j))), h) := by
  refine pm_Cn.eq (pm_Cn.of hl (by decide) (Nat.le_of_ble_eq_true rfl) ?_)
  obtain ⟨r1, r2, r3, r4, r5⟩ := id ra
  obtain ⟨s1, s2, s3, s4, s5⟩ := id rb
  refine px (fun _ => pm_aload_n (pc := 0) d_Mo_element_0 rfl) ?_
  refine px (fun _ => pm_getf fl_Mo_29 (pc := 1) d_Mo_element_1 H.1 rfl) ?_
  refine px (fun _ => pm_iload_n (pc := 4) d_Mo_element_4 rfl) ?_
  refine px (fun _ => pm_iald (j := n) (pc := 5) d_Mo_element_5 H.2.2.2.2.2.2.2.1 (rfl) (hn) (by decide)) ?_
  refine px (fun _ => pm_istore (lv' := [(4, .int (nI (mA T 6 n))), (0, .ref (95)), (1, .int (nI n)), (2, .int (nI i)), (3, .int (nI j))]) (pc := 6) d_Mo_element_6 (by decide) rfl) ?_
  refine px (fun _ => pm_aload_n (pc := 8) d_Mo_element_8 rfl) ?_
  refine px (fun _ => pm_getf fl_Mo_47 (pc := 9) d_Mo_element_9 H.1 rfl) ?_
  refine px (fun _ => pm_iload_n (pc := 12) d_Mo_element_12 rfl) ?_
  refine px (fun _ => pm_iconst (v := 3) (pc := 13) d_Mo_element_13 rfl) ?_
  refine px (fun _ => pm_imulN (a := n) (b := 3) (pc := 14) d_Mo_element_14) ?_
  refine px (fun _ => pm_iald (j := n * 3) (pc := 15) d_Mo_element_15 H.2.2.2.2.2.2.2.2.2.2.2.2.2.1 (rfl) (by omega) (by decide)) ?_
  rw [ea]
  refine px (fun _ => pm_istore (lv' := [(5, .int (nI a)), (4, .int (nI (mA T 6 n))), (0, .ref (95)), (1, .int (nI n)), (2, .int (nI i)), (3, .int (nI j))]) (pc := 16) d_Mo_element_16 (by decide) rfl) ?_
  refine px (fun _ => pm_aload_n (pc := 18) d_Mo_element_18 rfl) ?_
  refine px (fun _ => pm_getf fl_Mo_47 (pc := 19) d_Mo_element_19 H.1 rfl) ?_
  refine px (fun _ => pm_iload_n (pc := 22) d_Mo_element_22 rfl) ?_
  refine px (fun _ => pm_iconst (v := 3) (pc := 23) d_Mo_element_23 rfl) ?_
  refine px (fun _ => pm_imulN (a := n) (b := 3) (pc := 24) d_Mo_element_24) ?_
  refine px (fun _ => pm_iconst (v := 1) (pc := 25) d_Mo_element_25 rfl) ?_
  refine px (fun _ => pm_iaddN (a := (n * 3)) (b := 1) (pc := 26) d_Mo_element_26) ?_
  refine px (fun _ => pm_iald (j := n * 3 + 1) (pc := 27) d_Mo_element_27 H.2.2.2.2.2.2.2.2.2.2.2.2.2.1 (rfl) (by omega) (by decide)) ?_
  rw [eb]
  refine px (fun _ => pm_istore (lv' := [(6, .int (nI b)), (5, .int (nI a)), (4, .int (nI (mA T 6 n))), (0, .ref (95)), (1, .int (nI n)), (2, .int (nI i)), (3, .int (nI j))]) (pc := 28) d_Mo_element_28 (by decide) rfl) ?_
  refine px (fun _ => pm_aload_n (pc := 30) d_Mo_element_30 rfl) ?_
  refine px (fun _ => pm_getf fl_Mo_47 (pc := 31) d_Mo_element_31 H.1 rfl) ?_
  refine px (fun _ => pm_iload_n (pc := 34) d_Mo_element_34 rfl) ?_
  refine px (fun _ => pm_iconst (v := 3) (pc := 35) d_Mo_element_35 rfl) ?_
  refine px (fun _ => pm_imulN (a := n) (b := 3) (pc := 36) d_Mo_element_36) ?_
  refine px (fun _ => pm_iconst (v := 2) (pc := 37) d_Mo_element_37 rfl) ?_
  refine px (fun _ => pm_iaddN (a := (n * 3)) (b := 2) (pc := 38) d_Mo_element_38) ?_
  refine px (fun _ => pm_iald (j := n * 3 + 2) (pc := 39) d_Mo_element_39 H.2.2.2.2.2.2.2.2.2.2.2.2.2.1 (rfl) (by omega) (by decide)) ?_
  refine px (fun _ => pm_istore (lv' := [(7, .int ((mQ T 12) (n * 3 + 2))), (6, .int (nI b)), (5, .int (nI a)), (4, .int (nI (mA T 6 n))), (0, .ref (95)), (1, .int (nI n)), (2, .int (nI i)), (3, .int (nI j))]) (pc := 40) d_Mo_element_40 (by decide) rfl) ?_
  refine px (fun _ => pm_iload (pc := 42) d_Mo_element_42 rfl) ?_
  have tx_44 : (nI (mA T 6 n) : Int32).toInt = 15 := by rw [hop]; rfl
  refine px (fun _ => pm_tabIn (off := 369) (tgt := 413) (pc := 44) d_Mo_element_44 (by rw [tx_44]; decide) (by rw [tx_44]; decide) (by rw [tx_44]; rfl) (by decide)) ?_
  refine px (fun _ => pm_aload_n (pc := 413) d_Mo_element_413 rfl) ?_
  refine px (fun _ => pm_iload (pc := 414) d_Mo_element_414 rfl) ?_
  refine px (fun _ => pm_iload (pc := 416) d_Mo_element_416 rfl) ?_
  refine px (fun _ => pm_iload_n (pc := 418) d_Mo_element_418 rfl) ?_
  refine px (fun _ => pm_iload_n (pc := 419) d_Mo_element_419 rfl) ?_
  refine px (fun _ => k_Mo_element_420 (kc1 := 0) (ks1 := 0) (kc := 0) (ks := 0) (av := [.int (nI a), .int (nI b), .int (nI i), .int (nI j)]) (st := []) H.1 (m_pick hl H ha ta ca ra hb cb rb hi hj hin) rfl rfl (Nat.le_of_ble_eq_true rfl)) ?_
  exact pxr (pm_dret (pc := 423) d_Mo_element_423 rfl) (rfl)
set_option maxHeartbeats 1000000 in
set_option maxRecDepth 20000 in
theorem e_15n {l : Launch} {G : pm_G} {fi : Bool} {h : pm_H} {S : gS} {T : mS} {n a b i j : Nat} (hl : l.stackTraces = false) (H : mH T h) (hn : n < 14) (hop : mA T 6 n = 15) (hi4 : i < 4) (hj4 : j < 4) (ea : mQ T 12 (n * 3) = nI a) (ha : a < 20) (ta : mTb S T a) (ca : mCl S T a) (ra : g_rng S a) (eb : mQ T 12 (n * 3 + 1) = nI b) (hb : b < 20) (tb : mTb S T b) (cb : mCl S T b) (rb : g_rng S b) (hi : i < gT S b 2) (hj : j < gT S a 2) (hin : ¬ g_inR S a b i) (h4 : mG T 4 ≤ 4) : pm_Cn l G fi fi 0 0 M_Mo_element [.ref (95), .int (nI n), .int (nI i), .int (nI j)] h (m_P (some (.double FP.dconst0)) (m_tb T 4) h) := by
  refine pm_Cn.of hl (by decide) (Nat.le_of_ble_eq_true rfl) ?_
  obtain ⟨r1, r2, r3, r4, r5⟩ := id ra
  obtain ⟨s1, s2, s3, s4, s5⟩ := id rb
  refine px (fun _ => pm_aload_n (pc := 0) d_Mo_element_0 rfl) ?_
  refine px (fun _ => pm_getf fl_Mo_29 (pc := 1) d_Mo_element_1 H.1 rfl) ?_
  refine px (fun _ => pm_iload_n (pc := 4) d_Mo_element_4 rfl) ?_
  refine px (fun _ => pm_iald (j := n) (pc := 5) d_Mo_element_5 H.2.2.2.2.2.2.2.1 (rfl) (hn) (by decide)) ?_
  refine px (fun _ => pm_istore (lv' := [(4, .int (nI (mA T 6 n))), (0, .ref (95)), (1, .int (nI n)), (2, .int (nI i)), (3, .int (nI j))]) (pc := 6) d_Mo_element_6 (by decide) rfl) ?_
  refine px (fun _ => pm_aload_n (pc := 8) d_Mo_element_8 rfl) ?_
  refine px (fun _ => pm_getf fl_Mo_47 (pc := 9) d_Mo_element_9 H.1 rfl) ?_
  refine px (fun _ => pm_iload_n (pc := 12) d_Mo_element_12 rfl) ?_
  refine px (fun _ => pm_iconst (v := 3) (pc := 13) d_Mo_element_13 rfl) ?_
  refine px (fun _ => pm_imulN (a := n) (b := 3) (pc := 14) d_Mo_element_14) ?_
  refine px (fun _ => pm_iald (j := n * 3) (pc := 15) d_Mo_element_15 H.2.2.2.2.2.2.2.2.2.2.2.2.2.1 (rfl) (by omega) (by decide)) ?_
  rw [ea]
  refine px (fun _ => pm_istore (lv' := [(5, .int (nI a)), (4, .int (nI (mA T 6 n))), (0, .ref (95)), (1, .int (nI n)), (2, .int (nI i)), (3, .int (nI j))]) (pc := 16) d_Mo_element_16 (by decide) rfl) ?_
  refine px (fun _ => pm_aload_n (pc := 18) d_Mo_element_18 rfl) ?_
  refine px (fun _ => pm_getf fl_Mo_47 (pc := 19) d_Mo_element_19 H.1 rfl) ?_
  refine px (fun _ => pm_iload_n (pc := 22) d_Mo_element_22 rfl) ?_
  refine px (fun _ => pm_iconst (v := 3) (pc := 23) d_Mo_element_23 rfl) ?_
  refine px (fun _ => pm_imulN (a := n) (b := 3) (pc := 24) d_Mo_element_24) ?_
  refine px (fun _ => pm_iconst (v := 1) (pc := 25) d_Mo_element_25 rfl) ?_
  refine px (fun _ => pm_iaddN (a := (n * 3)) (b := 1) (pc := 26) d_Mo_element_26) ?_
  refine px (fun _ => pm_iald (j := n * 3 + 1) (pc := 27) d_Mo_element_27 H.2.2.2.2.2.2.2.2.2.2.2.2.2.1 (rfl) (by omega) (by decide)) ?_
  rw [eb]
  refine px (fun _ => pm_istore (lv' := [(6, .int (nI b)), (5, .int (nI a)), (4, .int (nI (mA T 6 n))), (0, .ref (95)), (1, .int (nI n)), (2, .int (nI i)), (3, .int (nI j))]) (pc := 28) d_Mo_element_28 (by decide) rfl) ?_
  refine px (fun _ => pm_aload_n (pc := 30) d_Mo_element_30 rfl) ?_
  refine px (fun _ => pm_getf fl_Mo_47 (pc := 31) d_Mo_element_31 H.1 rfl) ?_
  refine px (fun _ => pm_iload_n (pc := 34) d_Mo_element_34 rfl) ?_
  refine px (fun _ => pm_iconst (v := 3) (pc := 35) d_Mo_element_35 rfl) ?_
  refine px (fun _ => pm_imulN (a := n) (b := 3) (pc := 36) d_Mo_element_36) ?_
  refine px (fun _ => pm_iconst (v := 2) (pc := 37) d_Mo_element_37 rfl) ?_
  refine px (fun _ => pm_iaddN (a := (n * 3)) (b := 2) (pc := 38) d_Mo_element_38) ?_
  refine px (fun _ => pm_iald (j := n * 3 + 2) (pc := 39) d_Mo_element_39 H.2.2.2.2.2.2.2.2.2.2.2.2.2.1 (rfl) (by omega) (by decide)) ?_
  refine px (fun _ => pm_istore (lv' := [(7, .int ((mQ T 12) (n * 3 + 2))), (6, .int (nI b)), (5, .int (nI a)), (4, .int (nI (mA T 6 n))), (0, .ref (95)), (1, .int (nI n)), (2, .int (nI i)), (3, .int (nI j))]) (pc := 40) d_Mo_element_40 (by decide) rfl) ?_
  refine px (fun _ => pm_iload (pc := 42) d_Mo_element_42 rfl) ?_
  have tx_44 : (nI (mA T 6 n) : Int32).toInt = 15 := by rw [hop]; rfl
  refine px (fun _ => pm_tabIn (off := 369) (tgt := 413) (pc := 44) d_Mo_element_44 (by rw [tx_44]; decide) (by rw [tx_44]; decide) (by rw [tx_44]; rfl) (by decide)) ?_
  refine px (fun _ => pm_aload_n (pc := 413) d_Mo_element_413 rfl) ?_
  refine px (fun _ => pm_iload (pc := 414) d_Mo_element_414 rfl) ?_
  refine px (fun _ => pm_iload (pc := 416) d_Mo_element_416 rfl) ?_
  refine px (fun _ => pm_iload_n (pc := 418) d_Mo_element_418 rfl) ?_
  refine px (fun _ => pm_iload_n (pc := 419) d_Mo_element_419 rfl) ?_
  obtain ⟨⟨o1, h1⟩, ⟨e1, H1, F1⟩, en1⟩ := m_pickn (l := l) (G := G) (fi := fi) hl H ha ta ca ra hb cb rb hi hj hin h4
  dsimp only at e1 H1 F1
  subst e1
  refine px (fun _ => k_Mo_element_420 (kc1 := 0) (ks1 := 0) (kc := 0) (ks := 0) (av := [.int (nI a), .int (nI b), .int (nI i), .int (nI j)]) (st := []) H.1 (en1) rfl rfl (Nat.le_of_ble_eq_true rfl)) ?_
  exact pxr (pm_dret (pc := 423) d_Mo_element_423 rfl) ⟨rfl, H1, F1⟩
set_option maxHeartbeats 1000000 in
set_option maxRecDepth 20000 in
theorem e_16 {l : Launch} {G : pm_G} {fi : Bool} {h : pm_H} {S : gS} {T : mS} {n a b i j p q : Nat} (hl : l.stackTraces = false) (H : mH T h) (hn : n < 14) (hop : mA T 6 n = 16) (hi4 : i < 4) (hj4 : j < 4) (ea : mQ T 12 (n * 3) = nI a) (ha : a < 20) (ta : mTb S T a) (ca : mCl S T a) (ra : g_rng S a) (eb : mQ T 12 (n * 3 + 1) = nI b) (hb : b < 20) (tb : mTb S T b) (cb : mCl S T b) (rb : g_rng S b) (hp : mQ T 8 n = nI p) (hq : mQ T 9 n = nI q) (p2 : p ≤ 2) (q2 : q ≤ 2) (hi : i < gT S a 1) (hBa : ∀ k, k < gT S a 2 → gB (gC S a (i * 4 + k))) (hBb : ∀ k, k < gT S b 2 → gB (gC S b (0 * 4 + k))) : pm_En l G fi fi 0 0 M_Mo_element [.ref (95), .int (nI n), .int (nI i), .int (nI j)] h (.inl (some (.double (g_dot (fun k => if q ≤ j * p + k ∧ j * p + k - q < gT S a 2 then gC S a (i * 4 + (j * p + k - q)) else FP.dconst0) (fun k => gC S b (0 * 4 + k)) (gT S b 2) 0 FP.dconst0))), h) := by
  refine pm_Cn.eq (pm_Cn.of hl (by decide) (Nat.le_of_ble_eq_true rfl) ?_)
  obtain ⟨r1, r2, r3, r4, r5⟩ := id ra
  obtain ⟨s1, s2, s3, s4, s5⟩ := id rb
  refine px (fun _ => pm_aload_n (pc := 0) d_Mo_element_0 rfl) ?_
  refine px (fun _ => pm_getf fl_Mo_29 (pc := 1) d_Mo_element_1 H.1 rfl) ?_
  refine px (fun _ => pm_iload_n (pc := 4) d_Mo_element_4 rfl) ?_
  refine px (fun _ => pm_iald (j := n) (pc := 5) d_Mo_element_5 H.2.2.2.2.2.2.2.1 (rfl) (hn) (by decide)) ?_
  refine px (fun _ => pm_istore (lv' := [(4, .int (nI (mA T 6 n))), (0, .ref (95)), (1, .int (nI n)), (2, .int (nI i)), (3, .int (nI j))]) (pc := 6) d_Mo_element_6 (by decide) rfl) ?_
  refine px (fun _ => pm_aload_n (pc := 8) d_Mo_element_8 rfl) ?_
  refine px (fun _ => pm_getf fl_Mo_47 (pc := 9) d_Mo_element_9 H.1 rfl) ?_
  refine px (fun _ => pm_iload_n (pc := 12) d_Mo_element_12 rfl) ?_
  refine px (fun _ => pm_iconst (v := 3) (pc := 13) d_Mo_element_13 rfl) ?_
  refine px (fun _ => pm_imulN (a := n) (b := 3) (pc := 14) d_Mo_element_14) ?_
  refine px (fun _ => pm_iald (j := n * 3) (pc := 15) d_Mo_element_15 H.2.2.2.2.2.2.2.2.2.2.2.2.2.1 (rfl) (by omega) (by decide)) ?_
  rw [ea]
  refine px (fun _ => pm_istore (lv' := [(5, .int (nI a)), (4, .int (nI (mA T 6 n))), (0, .ref (95)), (1, .int (nI n)), (2, .int (nI i)), (3, .int (nI j))]) (pc := 16) d_Mo_element_16 (by decide) rfl) ?_
  refine px (fun _ => pm_aload_n (pc := 18) d_Mo_element_18 rfl) ?_
  refine px (fun _ => pm_getf fl_Mo_47 (pc := 19) d_Mo_element_19 H.1 rfl) ?_
  refine px (fun _ => pm_iload_n (pc := 22) d_Mo_element_22 rfl) ?_
  refine px (fun _ => pm_iconst (v := 3) (pc := 23) d_Mo_element_23 rfl) ?_
  refine px (fun _ => pm_imulN (a := n) (b := 3) (pc := 24) d_Mo_element_24) ?_
  refine px (fun _ => pm_iconst (v := 1) (pc := 25) d_Mo_element_25 rfl) ?_
  refine px (fun _ => pm_iaddN (a := (n * 3)) (b := 1) (pc := 26) d_Mo_element_26) ?_
  refine px (fun _ => pm_iald (j := n * 3 + 1) (pc := 27) d_Mo_element_27 H.2.2.2.2.2.2.2.2.2.2.2.2.2.1 (rfl) (by omega) (by decide)) ?_
  rw [eb]
  refine px (fun _ => pm_istore (lv' := [(6, .int (nI b)), (5, .int (nI a)), (4, .int (nI (mA T 6 n))), (0, .ref (95)), (1, .int (nI n)), (2, .int (nI i)), (3, .int (nI j))]) (pc := 28) d_Mo_element_28 (by decide) rfl) ?_
  refine px (fun _ => pm_aload_n (pc := 30) d_Mo_element_30 rfl) ?_
  refine px (fun _ => pm_getf fl_Mo_47 (pc := 31) d_Mo_element_31 H.1 rfl) ?_
  refine px (fun _ => pm_iload_n (pc := 34) d_Mo_element_34 rfl) ?_
  refine px (fun _ => pm_iconst (v := 3) (pc := 35) d_Mo_element_35 rfl) ?_
  refine px (fun _ => pm_imulN (a := n) (b := 3) (pc := 36) d_Mo_element_36) ?_
  refine px (fun _ => pm_iconst (v := 2) (pc := 37) d_Mo_element_37 rfl) ?_
  refine px (fun _ => pm_iaddN (a := (n * 3)) (b := 2) (pc := 38) d_Mo_element_38) ?_
  refine px (fun _ => pm_iald (j := n * 3 + 2) (pc := 39) d_Mo_element_39 H.2.2.2.2.2.2.2.2.2.2.2.2.2.1 (rfl) (by omega) (by decide)) ?_
  refine px (fun _ => pm_istore (lv' := [(7, .int ((mQ T 12) (n * 3 + 2))), (6, .int (nI b)), (5, .int (nI a)), (4, .int (nI (mA T 6 n))), (0, .ref (95)), (1, .int (nI n)), (2, .int (nI i)), (3, .int (nI j))]) (pc := 40) d_Mo_element_40 (by decide) rfl) ?_
  refine px (fun _ => pm_iload (pc := 42) d_Mo_element_42 rfl) ?_
  have tx_44 : (nI (mA T 6 n) : Int32).toInt = 16 := by rw [hop]; rfl
  refine px (fun _ => pm_tabIn (off := 380) (tgt := 424) (pc := 44) d_Mo_element_44 (by rw [tx_44]; decide) (by rw [tx_44]; decide) (by rw [tx_44]; rfl) (by decide)) ?_
  refine px (fun _ => pm_aload_n (pc := 424) d_Mo_element_424 rfl) ?_
  refine px (fun _ => pm_iload_n (pc := 425) d_Mo_element_425 rfl) ?_
  refine px (fun _ => pm_iload (pc := 426) d_Mo_element_426 rfl) ?_
  refine px (fun _ => pm_iload (pc := 428) d_Mo_element_428 rfl) ?_
  refine px (fun _ => pm_iload_n (pc := 430) d_Mo_element_430 rfl) ?_
  refine px (fun _ => pm_iload_n (pc := 431) d_Mo_element_431 rfl) ?_
  refine px (fun _ => k_Mo_element_432 (kc1 := 0) (ks1 := 0) (kc := 0) (ks := 0) (av := [.int (nI n), .int (nI a), .int (nI b), .int (nI i), .int (nI j)]) (st := []) H.1 (m_sld hl H hn ha ta ca ra hb tb cb rb hp hq p2 q2 hi hj4 s1 hBa hBb) rfl rfl (Nat.le_of_ble_eq_true rfl)) ?_
  exact pxr (pm_dret (pc := 435) d_Mo_element_435 rfl) (rfl)
set_option maxHeartbeats 1000000 in
set_option maxRecDepth 20000 in
theorem e_17_1 {l : Launch} {G : pm_G} {fi : Bool} {h : pm_H} {S : gS} {T : mS} {n a b c i j : Nat} (hl : l.stackTraces = false) (H : mH T h) (hn : n < 14) (hop : mA T 6 n = 17) (hi4 : i < 4) (hj4 : j < 4) (ea : mQ T 12 (n * 3) = nI a) (ha : a < 20) (ta : mTb S T a) (ra : g_rng S a) (eb : mQ T 12 (n * 3 + 1) = nI b) (hb : b < 20) (tb : mTb S T b) (cb : mCl S T b) (rb : g_rng S b) (ec : mQ T 12 (n * 3 + 2) = nI c) (hc : c < 20) (tc : mTb S T c) (rc : g_rng S c) (cc0 : mV T (c * 16) = gC S c (0 * 4 + 0)) (hz : fEq (gC S c (0 * 4 + 0)) FP.dconst0) (hi : i < gT S b 1) (hj : j < gT S b 2) : pm_En l G fi fi 0 0 M_Mo_element [.ref (95), .int (nI n), .int (nI i), .int (nI j)] h (.inl (some (.double (gC S b (i * 4 + j)))), h) := by
  refine pm_Cn.eq (pm_Cn.of hl (by decide) (Nat.le_of_ble_eq_true rfl) ?_)
  obtain ⟨r1, r2, r3, r4, r5⟩ := id ra
  obtain ⟨s1, s2, s3, s4, s5⟩ := id rb
  refine px (fun _ => pm_aload_n (pc := 0) d_Mo_element_0 rfl) ?_
  refine px (fun _ => pm_getf fl_Mo_29 (pc := 1) d_Mo_element_1 H.1 rfl) ?_
  refine px (fun _ => pm_iload_n (pc := 4) d_Mo_element_4 rfl) ?_
  refine px (fun _ => pm_iald (j := n) (pc := 5) d_Mo_element_5 H.2.2.2.2.2.2.2.1 (rfl) (hn) (by decide)) ?_
  refine px (fun _ => pm_istore (lv' := [(4, .int (nI (mA T 6 n))), (0, .ref (95)), (1, .int (nI n)), (2, .int (nI i)), (3, .int (nI j))]) (pc := 6) d_Mo_element_6 (by decide) rfl) ?_
  refine px (fun _ => pm_aload_n (pc := 8) d_Mo_element_8 rfl) ?_
  refine px (fun _ => pm_getf fl_Mo_47 (pc := 9) d_Mo_element_9 H.1 rfl) ?_
  refine px (fun _ => pm_iload_n (pc := 12) d_Mo_element_12 rfl) ?_
  refine px (fun _ => pm_iconst (v := 3) (pc := 13) d_Mo_element_13 rfl) ?_
  refine px (fun _ => pm_imulN (a := n) (b := 3) (pc := 14) d_Mo_element_14) ?_
  refine px (fun _ => pm_iald (j := n * 3) (pc := 15) d_Mo_element_15 H.2.2.2.2.2.2.2.2.2.2.2.2.2.1 (rfl) (by omega) (by decide)) ?_
  rw [ea]
  refine px (fun _ => pm_istore (lv' := [(5, .int (nI a)), (4, .int (nI (mA T 6 n))), (0, .ref (95)), (1, .int (nI n)), (2, .int (nI i)), (3, .int (nI j))]) (pc := 16) d_Mo_element_16 (by decide) rfl) ?_
  refine px (fun _ => pm_aload_n (pc := 18) d_Mo_element_18 rfl) ?_
  refine px (fun _ => pm_getf fl_Mo_47 (pc := 19) d_Mo_element_19 H.1 rfl) ?_
  refine px (fun _ => pm_iload_n (pc := 22) d_Mo_element_22 rfl) ?_
  refine px (fun _ => pm_iconst (v := 3) (pc := 23) d_Mo_element_23 rfl) ?_
  refine px (fun _ => pm_imulN (a := n) (b := 3) (pc := 24) d_Mo_element_24) ?_
  refine px (fun _ => pm_iconst (v := 1) (pc := 25) d_Mo_element_25 rfl) ?_
  refine px (fun _ => pm_iaddN (a := (n * 3)) (b := 1) (pc := 26) d_Mo_element_26) ?_
  refine px (fun _ => pm_iald (j := n * 3 + 1) (pc := 27) d_Mo_element_27 H.2.2.2.2.2.2.2.2.2.2.2.2.2.1 (rfl) (by omega) (by decide)) ?_
  rw [eb]
  refine px (fun _ => pm_istore (lv' := [(6, .int (nI b)), (5, .int (nI a)), (4, .int (nI (mA T 6 n))), (0, .ref (95)), (1, .int (nI n)), (2, .int (nI i)), (3, .int (nI j))]) (pc := 28) d_Mo_element_28 (by decide) rfl) ?_
  refine px (fun _ => pm_aload_n (pc := 30) d_Mo_element_30 rfl) ?_
  refine px (fun _ => pm_getf fl_Mo_47 (pc := 31) d_Mo_element_31 H.1 rfl) ?_
  refine px (fun _ => pm_iload_n (pc := 34) d_Mo_element_34 rfl) ?_
  refine px (fun _ => pm_iconst (v := 3) (pc := 35) d_Mo_element_35 rfl) ?_
  refine px (fun _ => pm_imulN (a := n) (b := 3) (pc := 36) d_Mo_element_36) ?_
  refine px (fun _ => pm_iconst (v := 2) (pc := 37) d_Mo_element_37 rfl) ?_
  refine px (fun _ => pm_iaddN (a := (n * 3)) (b := 2) (pc := 38) d_Mo_element_38) ?_
  refine px (fun _ => pm_iald (j := n * 3 + 2) (pc := 39) d_Mo_element_39 H.2.2.2.2.2.2.2.2.2.2.2.2.2.1 (rfl) (by omega) (by decide)) ?_
  rw [ec]
  refine px (fun _ => pm_istore (lv' := [(7, .int (nI c)), (6, .int (nI b)), (5, .int (nI a)), (4, .int (nI (mA T 6 n))), (0, .ref (95)), (1, .int (nI n)), (2, .int (nI i)), (3, .int (nI j))]) (pc := 40) d_Mo_element_40 (by decide) rfl) ?_
  refine px (fun _ => pm_iload (pc := 42) d_Mo_element_42 rfl) ?_
  have tx_44 : (nI (mA T 6 n) : Int32).toInt = 17 := by rw [hop]; rfl
  refine px (fun _ => pm_tabIn (off := 392) (tgt := 436) (pc := 44) d_Mo_element_44 (by rw [tx_44]; decide) (by rw [tx_44]; decide) (by rw [tx_44]; rfl) (by decide)) ?_
  refine px (fun _ => pm_aload_n (pc := 436) d_Mo_element_436 rfl) ?_
  refine px (fun _ => pm_getf fl_Mo_25 (pc := 437) d_Mo_element_437 H.1 rfl) ?_
  refine px (fun _ => pm_iload (pc := 440) d_Mo_element_440 rfl) ?_
  refine px (fun _ => pm_bipush (v := 16) (pc := 442) d_Mo_element_442 rfl) ?_
  refine px (fun _ => pm_imulN (a := c) (b := 16) (pc := 444) d_Mo_element_444) ?_
  refine px (fun _ => pm_dald (j := c * 16) (pc := 445) d_Mo_element_445 H.2.2.2.2.2.2.1 (rfl) (by omega) (by decide)) ?_
  rw [cc0]
  refine px (fun _ => pm_dconst0 (pc := 446) d_Mo_element_446) ?_
  refine px (fun _ => pm_dcmp (pc := 447) d_Mo_element_447) ?_
  refine pxb (fun _ => pm_if_eq (pc := 448) (tgt := 470) d_Mo_element_448 (by decide)) (fun c_1 => ?_) (fun c_1 => absurd (hz) c_1)
  refine px (fun _ => pm_aload_n (pc := 470) d_Mo_element_470 rfl) ?_
  refine px (fun _ => pm_getf fl_Mo_25 (pc := 471) d_Mo_element_471 H.1 rfl) ?_
  refine px (fun _ => pm_iload (pc := 474) d_Mo_element_474 rfl) ?_
  refine px (fun _ => pm_bipush (v := 16) (pc := 476) d_Mo_element_476 rfl) ?_
  refine px (fun _ => pm_imulN (a := b) (b := 16) (pc := 478) d_Mo_element_478) ?_
  refine px (fun _ => pm_iload_n (pc := 479) d_Mo_element_479 rfl) ?_
  refine px (fun _ => pm_iconst (v := 4) (pc := 480) d_Mo_element_480 rfl) ?_
  refine px (fun _ => pm_imulN (a := i) (b := 4) (pc := 481) d_Mo_element_481) ?_
  refine px (fun _ => pm_iaddN (a := (b * 16)) (b := (i * 4)) (pc := 482) d_Mo_element_482) ?_
  refine px (fun _ => pm_iload_n (pc := 483) d_Mo_element_483 rfl) ?_
  refine px (fun _ => pm_iaddN (a := ((b * 16) + (i * 4))) (b := j) (pc := 484) d_Mo_element_484) ?_
  refine px (fun _ => pm_dald (j := ((b * 16) + (i * 4)) + j) (pc := 485) d_Mo_element_485 H.2.2.2.2.2.2.1 (rfl) (by omega) (by decide)) ?_
  exact pxr (pm_dret (pc := 486) d_Mo_element_486 rfl) (by rw [← cb i j hi hj])
set_option maxHeartbeats 1000000 in
set_option maxRecDepth 20000 in
theorem e_17_0 {l : Launch} {G : pm_G} {fi : Bool} {h : pm_H} {S : gS} {T : mS} {n a b c i j : Nat} (hl : l.stackTraces = false) (H : mH T h) (hn : n < 14) (hop : mA T 6 n = 17) (hi4 : i < 4) (hj4 : j < 4) (ea : mQ T 12 (n * 3) = nI a) (ha : a < 20) (ta : mTb S T a) (ca : mCl S T a) (ra : g_rng S a) (eb : mQ T 12 (n * 3 + 1) = nI b) (hb : b < 20) (tb : mTb S T b) (rb : g_rng S b) (ec : mQ T 12 (n * 3 + 2) = nI c) (hc : c < 20) (tc : mTb S T c) (rc : g_rng S c) (cc0 : mV T (c * 16) = gC S c (0 * 4 + 0)) (hz : ¬ fEq (gC S c (0 * 4 + 0)) FP.dconst0) (hi : i < gT S a 1) (hj : j < gT S a 2) : pm_En l G fi fi 0 0 M_Mo_element [.ref (95), .int (nI n), .int (nI i), .int (nI j)] h (.inl (some (.double (gC S a (i * 4 + j)))), h) := by
  refine pm_Cn.eq (pm_Cn.of hl (by decide) (Nat.le_of_ble_eq_true rfl) ?_)
  obtain ⟨r1, r2, r3, r4, r5⟩ := id ra
  obtain ⟨s1, s2, s3, s4, s5⟩ := id rb
  refine px (fun _ => pm_aload_n (pc := 0) d_Mo_element_0 rfl) ?_
  refine px (fun _ => pm_getf fl_Mo_29 (pc := 1) d_Mo_element_1 H.1 rfl) ?_
  refine px (fun _ => pm_iload_n (pc := 4) d_Mo_element_4 rfl) ?_
  refine px (fun _ => pm_iald (j := n) (pc := 5) d_Mo_element_5 H.2.2.2.2.2.2.2.1 (rfl) (hn) (by decide)) ?_
  refine px (fun _ => pm_istore (lv' := [(4, .int (nI (mA T 6 n))), (0, .ref (95)), (1, .int (nI n)), (2, .int (nI i)), (3, .int (nI j))]) (pc := 6) d_Mo_element_6 (by decide) rfl) ?_
  refine px (fun _ => pm_aload_n (pc := 8) d_Mo_element_8 rfl) ?_
  refine px (fun _ => pm_getf fl_Mo_47 (pc := 9) d_Mo_element_9 H.1 rfl) ?_
  refine px (fun _ => pm_iload_n (pc := 12) d_Mo_element_12 rfl) ?_
  refine px (fun _ => pm_iconst (v := 3) (pc := 13) d_Mo_element_13 rfl) ?_
  refine px (fun _ => pm_imulN (a := n) (b := 3) (pc := 14) d_Mo_element_14) ?_
  refine px (fun _ => pm_iald (j := n * 3) (pc := 15) d_Mo_element_15 H.2.2.2.2.2.2.2.2.2.2.2.2.2.1 (rfl) (by omega) (by decide)) ?_
  rw [ea]
  refine px (fun _ => pm_istore (lv' := [(5, .int (nI a)), (4, .int (nI (mA T 6 n))), (0, .ref (95)), (1, .int (nI n)), (2, .int (nI i)), (3, .int (nI j))]) (pc := 16) d_Mo_element_16 (by decide) rfl) ?_
  refine px (fun _ => pm_aload_n (pc := 18) d_Mo_element_18 rfl) ?_
  refine px (fun _ => pm_getf fl_Mo_47 (pc := 19) d_Mo_element_19 H.1 rfl) ?_
  refine px (fun _ => pm_iload_n (pc := 22) d_Mo_element_22 rfl) ?_
  refine px (fun _ => pm_iconst (v := 3) (pc := 23) d_Mo_element_23 rfl) ?_
  refine px (fun _ => pm_imulN (a := n) (b := 3) (pc := 24) d_Mo_element_24) ?_
  refine px (fun _ => pm_iconst (v := 1) (pc := 25) d_Mo_element_25 rfl) ?_
  refine px (fun _ => pm_iaddN (a := (n * 3)) (b := 1) (pc := 26) d_Mo_element_26) ?_
  refine px (fun _ => pm_iald (j := n * 3 + 1) (pc := 27) d_Mo_element_27 H.2.2.2.2.2.2.2.2.2.2.2.2.2.1 (rfl) (by omega) (by decide)) ?_
  rw [eb]
  refine px (fun _ => pm_istore (lv' := [(6, .int (nI b)), (5, .int (nI a)), (4, .int (nI (mA T 6 n))), (0, .ref (95)), (1, .int (nI n)), (2, .int (nI i)), (3, .int (nI j))]) (pc := 28) d_Mo_element_28 (by decide) rfl) ?_
  refine px (fun _ => pm_aload_n (pc := 30) d_Mo_element_30 rfl) ?_
  refine px (fun _ => pm_getf fl_Mo_47 (pc := 31) d_Mo_element_31 H.1 rfl) ?_
  refine px (fun _ => pm_iload_n (pc := 34) d_Mo_element_34 rfl) ?_
  refine px (fun _ => pm_iconst (v := 3) (pc := 35) d_Mo_element_35 rfl) ?_
  refine px (fun _ => pm_imulN (a := n) (b := 3) (pc := 36) d_Mo_element_36) ?_
  refine px (fun _ => pm_iconst (v := 2) (pc := 37) d_Mo_element_37 rfl) ?_
  refine px (fun _ => pm_iaddN (a := (n * 3)) (b := 2) (pc := 38) d_Mo_element_38) ?_
  refine px (fun _ => pm_iald (j := n * 3 + 2) (pc := 39) d_Mo_element_39 H.2.2.2.2.2.2.2.2.2.2.2.2.2.1 (rfl) (by omega) (by decide)) ?_
  rw [ec]
  refine px (fun _ => pm_istore (lv' := [(7, .int (nI c)), (6, .int (nI b)), (5, .int (nI a)), (4, .int (nI (mA T 6 n))), (0, .ref (95)), (1, .int (nI n)), (2, .int (nI i)), (3, .int (nI j))]) (pc := 40) d_Mo_element_40 (by decide) rfl) ?_
  refine px (fun _ => pm_iload (pc := 42) d_Mo_element_42 rfl) ?_
  have tx_44 : (nI (mA T 6 n) : Int32).toInt = 17 := by rw [hop]; rfl
  refine px (fun _ => pm_tabIn (off := 392) (tgt := 436) (pc := 44) d_Mo_element_44 (by rw [tx_44]; decide) (by rw [tx_44]; decide) (by rw [tx_44]; rfl) (by decide)) ?_
  refine px (fun _ => pm_aload_n (pc := 436) d_Mo_element_436 rfl) ?_
  refine px (fun _ => pm_getf fl_Mo_25 (pc := 437) d_Mo_element_437 H.1 rfl) ?_
  refine px (fun _ => pm_iload (pc := 440) d_Mo_element_440 rfl) ?_
  refine px (fun _ => pm_bipush (v := 16) (pc := 442) d_Mo_element_442 rfl) ?_
  refine px (fun _ => pm_imulN (a := c) (b := 16) (pc := 444) d_Mo_element_444) ?_
  refine px (fun _ => pm_dald (j := c * 16) (pc := 445) d_Mo_element_445 H.2.2.2.2.2.2.1 (rfl) (by omega) (by decide)) ?_
  rw [cc0]
  refine px (fun _ => pm_dconst0 (pc := 446) d_Mo_element_446) ?_
  refine px (fun _ => pm_dcmp (pc := 447) d_Mo_element_447) ?_
  refine pxb (fun _ => pm_if_eq (pc := 448) (tgt := 470) d_Mo_element_448 (by decide)) (fun c_1 => absurd c_1 (hz)) (fun c_1 => ?_)
  refine px (fun _ => pm_aload_n (pc := 451) d_Mo_element_451 rfl) ?_
  refine px (fun _ => pm_getf fl_Mo_25 (pc := 452) d_Mo_element_452 H.1 rfl) ?_
  refine px (fun _ => pm_iload (pc := 455) d_Mo_element_455 rfl) ?_
  refine px (fun _ => pm_bipush (v := 16) (pc := 457) d_Mo_element_457 rfl) ?_
  refine px (fun _ => pm_imulN (a := a) (b := 16) (pc := 459) d_Mo_element_459) ?_
  refine px (fun _ => pm_iload_n (pc := 460) d_Mo_element_460 rfl) ?_
  refine px (fun _ => pm_iconst (v := 4) (pc := 461) d_Mo_element_461 rfl) ?_
  refine px (fun _ => pm_imulN (a := i) (b := 4) (pc := 462) d_Mo_element_462) ?_
  refine px (fun _ => pm_iaddN (a := (a * 16)) (b := (i * 4)) (pc := 463) d_Mo_element_463) ?_
  refine px (fun _ => pm_iload_n (pc := 464) d_Mo_element_464 rfl) ?_
  refine px (fun _ => pm_iaddN (a := ((a * 16) + (i * 4))) (b := j) (pc := 465) d_Mo_element_465) ?_
  refine px (fun _ => pm_dald (j := ((a * 16) + (i * 4)) + j) (pc := 466) d_Mo_element_466 H.2.2.2.2.2.2.1 (rfl) (by omega) (by decide)) ?_
  refine px (fun _ => pm_goto (tgt := 486) (pc := 467) d_Mo_element_467 (by decide)) ?_
  exact pxr (pm_dret (pc := 486) d_Mo_element_486 rfl) (by rw [← ca i j hi hj])
set_option maxHeartbeats 1000000 in
set_option maxRecDepth 20000 in
theorem e_18 {l : Launch} {G : pm_G} {fi : Bool} {h : pm_H} {S : gS} {T : mS} {n a i j : Nat} (hl : l.stackTraces = false) (H : mH T h) (hn : n < 14) (hop : mA T 6 n = 18) (hi4 : i < 4) (hj4 : j < 4) (ea : mQ T 12 (n * 3) = nI a) (ha : a < 20) (ta : mTb S T a) (ca : mCl S T a) (ra : g_rng S a) (hi : i < gT S a 1) (hj : j < gT S a 2) : pm_En l G fi fi 0 0 M_Mo_element [.ref (95), .int (nI n), .int (nI i), .int (nI j)] h (.inl (some (.double (if fLt (gC S a (i * 4 + j)) (FP.i2d (mQ T 8 n)) then FP.i2d (mQ T 8 n) else if fGt (gC S a (i * 4 + j)) (FP.i2d (mQ T 9 n)) then FP.i2d (mQ T 9 n) else gC S a (i * 4 + j)))), h) := by
  refine pm_Cn.eq (pm_Cn.of hl (by decide) (Nat.le_of_ble_eq_true rfl) ?_)
  obtain ⟨r1, r2, r3, r4, r5⟩ := id ra
  refine px (fun _ => pm_aload_n (pc := 0) d_Mo_element_0 rfl) ?_
  refine px (fun _ => pm_getf fl_Mo_29 (pc := 1) d_Mo_element_1 H.1 rfl) ?_
  refine px (fun _ => pm_iload_n (pc := 4) d_Mo_element_4 rfl) ?_
  refine px (fun _ => pm_iald (j := n) (pc := 5) d_Mo_element_5 H.2.2.2.2.2.2.2.1 (rfl) (hn) (by decide)) ?_
  refine px (fun _ => pm_istore (lv' := [(4, .int (nI (mA T 6 n))), (0, .ref (95)), (1, .int (nI n)), (2, .int (nI i)), (3, .int (nI j))]) (pc := 6) d_Mo_element_6 (by decide) rfl) ?_
  refine px (fun _ => pm_aload_n (pc := 8) d_Mo_element_8 rfl) ?_
  refine px (fun _ => pm_getf fl_Mo_47 (pc := 9) d_Mo_element_9 H.1 rfl) ?_
  refine px (fun _ => pm_iload_n (pc := 12) d_Mo_element_12 rfl) ?_
  refine px (fun _ => pm_iconst (v := 3) (pc := 13) d_Mo_element_13 rfl) ?_
  refine px (fun _ => pm_imulN (a := n) (b := 3) (pc := 14) d_Mo_element_14) ?_
  refine px (fun _ => pm_iald (j := n * 3) (pc := 15) d_Mo_element_15 H.2.2.2.2.2.2.2.2.2.2.2.2.2.1 (rfl) (by omega) (by decide)) ?_
  rw [ea]
  refine px (fun _ => pm_istore (lv' := [(5, .int (nI a)), (4, .int (nI (mA T 6 n))), (0, .ref (95)), (1, .int (nI n)), (2, .int (nI i)), (3, .int (nI j))]) (pc := 16) d_Mo_element_16 (by decide) rfl) ?_
  refine px (fun _ => pm_aload_n (pc := 18) d_Mo_element_18 rfl) ?_
  refine px (fun _ => pm_getf fl_Mo_47 (pc := 19) d_Mo_element_19 H.1 rfl) ?_
  refine px (fun _ => pm_iload_n (pc := 22) d_Mo_element_22 rfl) ?_
  refine px (fun _ => pm_iconst (v := 3) (pc := 23) d_Mo_element_23 rfl) ?_
  refine px (fun _ => pm_imulN (a := n) (b := 3) (pc := 24) d_Mo_element_24) ?_
  refine px (fun _ => pm_iconst (v := 1) (pc := 25) d_Mo_element_25 rfl) ?_
  refine px (fun _ => pm_iaddN (a := (n * 3)) (b := 1) (pc := 26) d_Mo_element_26) ?_
  refine px (fun _ => pm_iald (j := n * 3 + 1) (pc := 27) d_Mo_element_27 H.2.2.2.2.2.2.2.2.2.2.2.2.2.1 (rfl) (by omega) (by decide)) ?_
  refine px (fun _ => pm_istore (lv' := [(6, .int ((mQ T 12) (n * 3 + 1))), (5, .int (nI a)), (4, .int (nI (mA T 6 n))), (0, .ref (95)), (1, .int (nI n)), (2, .int (nI i)), (3, .int (nI j))]) (pc := 28) d_Mo_element_28 (by decide) rfl) ?_
  refine px (fun _ => pm_aload_n (pc := 30) d_Mo_element_30 rfl) ?_
  refine px (fun _ => pm_getf fl_Mo_47 (pc := 31) d_Mo_element_31 H.1 rfl) ?_
  refine px (fun _ => pm_iload_n (pc := 34) d_Mo_element_34 rfl) ?_
  refine px (fun _ => pm_iconst (v := 3) (pc := 35) d_Mo_element_35 rfl) ?_
  refine px (fun _ => pm_imulN (a := n) (b := 3) (pc := 36) d_Mo_element_36) ?_
  refine px (fun _ => pm_iconst (v := 2) (pc := 37) d_Mo_element_37 rfl) ?_
  refine px (fun _ => pm_iaddN (a := (n * 3)) (b := 2) (pc := 38) d_Mo_element_38) ?_
  refine px (fun _ => pm_iald (j := n * 3 + 2) (pc := 39) d_Mo_element_39 H.2.2.2.2.2.2.2.2.2.2.2.2.2.1 (rfl) (by omega) (by decide)) ?_
  refine px (fun _ => pm_istore (lv' := [(7, .int ((mQ T 12) (n * 3 + 2))), (6, .int ((mQ T 12) (n * 3 + 1))), (5, .int (nI a)), (4, .int (nI (mA T 6 n))), (0, .ref (95)), (1, .int (nI n)), (2, .int (nI i)), (3, .int (nI j))]) (pc := 40) d_Mo_element_40 (by decide) rfl) ?_
  refine px (fun _ => pm_iload (pc := 42) d_Mo_element_42 rfl) ?_
  refine px (fun _ => pm_tabOut (tgt := 487) (pc := 44) d_Mo_element_44 (Or.inr (by rw [hop]; decide)) (by decide)) ?_
  refine px (fun _ => pm_aload_n (pc := 487) d_Mo_element_487 rfl) ?_
  refine px (fun _ => pm_iload_n (pc := 488) d_Mo_element_488 rfl) ?_
  refine px (fun _ => pm_aload_n (pc := 489) d_Mo_element_489 rfl) ?_
  refine px (fun _ => pm_iload (pc := 490) d_Mo_element_490 rfl) ?_
  refine px (fun _ => pm_iload_n (pc := 492) d_Mo_element_492 rfl) ?_
  refine px (fun _ => pm_iload_n (pc := 493) d_Mo_element_493 rfl) ?_
  refine px (fun _ => k_Mo_element_494 (kc1 := 0) (ks1 := 0) (kc := 0) (ks := 0) (av := [.int (nI a), .int (nI i), .int (nI j)]) (st := [.int (nI n), .ref (95)]) H.1 (m_at2 hl H ha ta ca ra (hi) (hj)) rfl rfl (Nat.le_of_ble_eq_true rfl)) ?_
  refine px (fun _ => k_Mo_element_497 (kc1 := 0) (ks1 := 0) (kc := 0) (ks := 0) (av := [.int (nI n), .double (gC S a (i * 4 + j))]) (st := []) H.1 (m_bounded (S := S) hl H hn) rfl rfl (Nat.le_of_ble_eq_true rfl)) ?_
  exact pxr (pm_dret (pc := 500) d_Mo_element_500 rfl) (rfl)
