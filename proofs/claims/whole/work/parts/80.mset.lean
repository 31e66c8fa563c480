/-! ===== the model: set, node ===== -/
set_option maxHeartbeats 1000000 in
set_option maxRecDepth 20000 in
theorem lp_mset {l : Launch} {G : pm_G} {fi : Bool} {Post : pm_O × pm_H → Prop}   : ∀ (d i : Nat) (T : mS) (h : pm_H), mH T h → i + d = 14 → (∀ h', mH (msK T i) h' → mFr h h' → pm_Px l G fi fi 0 0 M_Mo_set 209 [(7, .int (nI 14)), (0, .ref (95))] [] h' Post) → pm_Px l G fi fi 0 0 M_Mo_set 177 [(7, .int (nI i)), (0, .ref (95))] [] h Post := by
  intro d
  induction d with
  | zero =>
    intro i T h H hd K
    obtain rfl : i = 14 := by omega
    rw [msK_14] at K
    refine px (fun _ => pm_iload (pc := 177) d_Mo_set_177 rfl) ?_
    refine px (fun _ => pm_bipush (v := 14) (pc := 179) d_Mo_set_179 rfl) ?_
    refine pxb (fun _ => pm_icmp_ge (pc := 181) (tgt := 209) d_Mo_set_181 (by decide)) (fun c_1 => ?_) (fun c_1 => absurd ((nI_leI (a := 14) (b := 14) (by omega) (by omega)).mpr (by omega)) c_1)
    exact K h H (mFr.rf h)
  | succ d ih =>
    intro i T h H hd K
    refine px (fun _ => pm_iload (pc := 177) d_Mo_set_177 rfl) ?_
    refine px (fun _ => pm_bipush (v := 14) (pc := 179) d_Mo_set_179 rfl) ?_
    refine pxb (fun _ => pm_icmp_ge (pc := 181) (tgt := 209) d_Mo_set_181 (by decide)) (fun c_1 => absurd c_1 (fun q => absurd ((nI_leI (a := 14) (b := i) (by omega) (by omega)).mp q) (by omega))) (fun c_1 => ?_)
    refine px (fun _ => pm_aload_n (pc := 184) d_Mo_set_184 rfl) ?_
    refine px (fun _ => pm_getf fl_Mo_41 (pc := 185) d_Mo_set_185 H.1 rfl) ?_
    refine px (fun _ => pm_iload (pc := 188) d_Mo_set_188 rfl) ?_
    refine px (fun _ => pm_iald (j := i) (pc := 190) d_Mo_set_190 H.2.2.2.2.2.2.2.2.2.2.2.1 (rfl) ((by omega)) (by decide)) ?_
    refine px (fun _ => pm_iconst (v := 2) (pc := 191) d_Mo_set_191 rfl) ?_
    refine pxn (fun _ => pm_icmp_ne (pc := 192) (tgt := 203) d_Mo_set_192 (by decide)) (fun c_2 => ?_) (fun c_2 => ?_)
    · refine px (fun _ => pm_iinc (x := nI i) (v := nI (i + 1)) (lv' := [(7, .int (nI (i + 1))), (0, .ref (95))]) (pc := 203) d_Mo_set_203 rfl (nI_1 _) (by decide) rfl) ?_
      refine px (fun _ => pm_goto (tgt := 177) (pc := 206) d_Mo_set_206 (by decide)) ?_
      refine pxd [0, 1] rfl ?_
      exact ih (i + 1) _ _ H (by omega) (fun h' H' F' => K h' (by rw [msK_n T (by assumption)] at H'; exact H') ((mFr.rf _).tr F'))
    · refine px (fun _ => pm_aload_n (pc := 195) d_Mo_set_195 rfl) ?_
      refine px (fun _ => pm_getf fl_Mo_41 (pc := 196) d_Mo_set_196 H.1 rfl) ?_
      refine px (fun _ => pm_iload (pc := 199) d_Mo_set_199 rfl) ?_
      refine px (fun _ => pm_iconst (v := 0) (pc := 201) d_Mo_set_201 rfl) ?_
      refine px (fun _ => pm_iast (j := i) (pc := 202) d_Mo_set_202 H.2.2.2.2.2.2.2.2.2.2.2.1 (rfl) ((by omega)) (by decide)) ?_
      have H_3 : mH (msA T 10 i 0) (h.set (106) (pm_I 14 (va_up (fun j => nI (mA T 10 j)) (i) (0)))) := H.A10 (j := i) (v := 0)
      refine px (fun _ => pm_iinc (x := nI i) (v := nI (i + 1)) (lv' := [(7, .int (nI (i + 1))), (0, .ref (95))]) (pc := 203) d_Mo_set_203 rfl (nI_1 _) (by decide) rfl) ?_
      refine px (fun _ => pm_goto (tgt := 177) (pc := 206) d_Mo_set_206 (by decide)) ?_
      refine pxd [0, 1] rfl ?_
      exact ih (i + 1) _ _ H_3 (by omega) (fun h' H' F' => K h' (by rw [msK_s T (by omega) (by assumption)] at H'; exact H') (((mFr.set _ _ (by omega))).tr F'))
set_option maxHeartbeats 1000000 in
set_option maxRecDepth 20000 in
theorem m_set_ok01 {l : Launch} {G : pm_G} {fi : Bool} {h : pm_H} {T : mS} {j x y : Nat} {v : UInt64} (hl : l.stackTraces = false) (H : mH T h) (hj : j < 20) (h4 : mA T 2 j ≤ 4) (h5 : mA T 3 j ≤ 4) (hx : x < mA T 2 j) (hy : y < mA T 3 j) (htt : mA T 1 j = 0) (hkk : mA T 0 j = 1) (hv : g_st 0 v) : pm_Cn l G fi fi 0 0 M_Mo_set [.ref (95), .int (nI j), .int (nI x), .int (nI y), .double (v)] h (m_P none (msK (msS T j x y v) 0) h) := by
  refine pm_Cn.of hl (by decide) (Nat.le_of_ble_eq_true rfl) ?_
  refine px (fun _ => pm_aload_n (pc := 0) d_Mo_set_0 rfl) ?_
  refine px (fun _ => pm_iload_n (pc := 1) d_Mo_set_1 rfl) ?_
  refine px (fun _ => k_Mo_set_2 (kc1 := 0) (ks1 := 0) (kc := 0) (ks := 0) (av := [.int (nI j)]) (st := []) H.1 (m_ns_in hl H hj) rfl rfl (Nat.le_of_ble_eq_true rfl)) ?_
  refine pxn (fun _ => pm_if_ne (pc := 5) (tgt := 74) d_Mo_set_5 (by decide)) (fun c_1 => absurd (by decide) c_1) (fun c_1 => ?_)
  refine px (fun _ => pm_aload_n (pc := 8) d_Mo_set_8 rfl) ?_
  refine px (fun _ => pm_getf fl_Mo_7 (pc := 9) d_Mo_set_9 H.1 rfl) ?_
  refine px (fun _ => pm_iload_n (pc := 12) d_Mo_set_12 rfl) ?_
  refine px (fun _ => pm_iald (j := j) (pc := 13) d_Mo_set_13 H.2.1 (rfl) (hj) (by decide)) ?_
  refine px (fun _ => pm_iconst (v := 1) (pc := 14) d_Mo_set_14 rfl) ?_
  refine pxb (fun _ => pm_icmp_lt (pc := 15) (tgt := 74) d_Mo_set_15 (by decide)) (fun c_2 => absurd c_2 (by rw [hkk]; decide)) (fun c_2 => ?_)
  refine px (fun _ => pm_aload_n (pc := 18) d_Mo_set_18 rfl) ?_
  refine px (fun _ => pm_getf fl_Mo_7 (pc := 19) d_Mo_set_19 H.1 rfl) ?_
  refine px (fun _ => pm_iload_n (pc := 22) d_Mo_set_22 rfl) ?_
  refine px (fun _ => pm_iald (j := j) (pc := 23) d_Mo_set_23 H.2.1 (rfl) (hj) (by decide)) ?_
  refine px (fun _ => pm_iconst (v := 2) (pc := 24) d_Mo_set_24 rfl) ?_
  refine pxb (fun _ => pm_icmp_gt (pc := 25) (tgt := 74) d_Mo_set_25 (by decide)) (fun c_3 => absurd c_3 (by rw [hkk]; decide)) (fun c_3 => ?_)
  refine px (fun _ => pm_iload_n (pc := 28) d_Mo_set_28 rfl) ?_
  refine pxb (fun _ => pm_if_lt (pc := 29) (tgt := 74) d_Mo_set_29 (by decide)) (fun c_4 => absurd c_4 (nI_pos (by omega))) (fun c_4 => ?_)
  refine px (fun _ => pm_iload_n (pc := 32) d_Mo_set_32 rfl) ?_
  refine pxb (fun _ => pm_if_lt (pc := 33) (tgt := 74) d_Mo_set_33 (by decide)) (fun c_5 => absurd c_5 (nI_pos (by omega))) (fun c_5 => ?_)
  refine px (fun _ => pm_iload_n (pc := 36) d_Mo_set_36 rfl) ?_
  refine px (fun _ => pm_aload_n (pc := 37) d_Mo_set_37 rfl) ?_
  refine px (fun _ => pm_getf fl_Mo_16 (pc := 38) d_Mo_set_38 H.1 rfl) ?_
  refine px (fun _ => pm_iload_n (pc := 41) d_Mo_set_41 rfl) ?_
  refine px (fun _ => pm_iald (j := j) (pc := 42) d_Mo_set_42 H.2.2.2.1 (rfl) (hj) (by decide)) ?_
  refine pxb (fun _ => pm_icmp_ge (pc := 43) (tgt := 74) d_Mo_set_43 (by decide)) (fun c_6 => absurd c_6 (fun q => absurd ((nI_leI (a := mA T 2 j) (b := x) (by omega) (by omega)).mp q) (by omega))) (fun c_6 => ?_)
  refine px (fun _ => pm_iload_n (pc := 46) d_Mo_set_46 rfl) ?_
  refine px (fun _ => pm_aload_n (pc := 47) d_Mo_set_47 rfl) ?_
  refine px (fun _ => pm_getf fl_Mo_19 (pc := 48) d_Mo_set_48 H.1 rfl) ?_
  refine px (fun _ => pm_iload_n (pc := 51) d_Mo_set_51 rfl) ?_
  refine px (fun _ => pm_iald (j := j) (pc := 52) d_Mo_set_52 H.2.2.2.2.1 (rfl) (hj) (by decide)) ?_
  refine pxb (fun _ => pm_icmp_ge (pc := 53) (tgt := 74) d_Mo_set_53 (by decide)) (fun c_7 => absurd c_7 (fun q => absurd ((nI_leI (a := mA T 3 j) (b := y) (by omega) (by omega)).mp q) (by omega))) (fun c_7 => ?_)
  refine px (fun _ => pm_dload (pc := 56) d_Mo_set_56 rfl) ?_
  refine px (fun _ => pm_ldc2d (pc := 58) d_Mo_set_58 tw_704) ?_
  refine px (fun _ => pm_dcmp (pc := 61) d_Mo_set_61) ?_
  refine pxb (fun _ => pm_if_lt (pc := 62) (tgt := 74) d_Mo_set_62 (by decide)) (fun c_8 => absurd c_8 (hv.1.1)) (fun c_8 => ?_)
  refine px (fun _ => pm_dload (pc := 65) d_Mo_set_65 rfl) ?_
  refine px (fun _ => pm_ldc2d (pc := 67) d_Mo_set_67 tw_705) ?_
  refine px (fun _ => pm_dcmp (pc := 70) d_Mo_set_70) ?_
  refine pxb (fun _ => pm_if_le (pc := 71) (tgt := 78) d_Mo_set_71 (by decide)) (fun c_9 => ?_) (fun c_9 => absurd (Int32.not_lt.mp hv.1.2) c_9)
  refine px (fun _ => pm_iconst (v := 0) (pc := 78) d_Mo_set_78 rfl) ?_
  refine px (fun _ => pm_istore (lv' := [(6, .int (0)), (0, .ref (95)), (1, .int (nI j)), (2, .int (nI x)), (3, .int (nI y)), (4, .double (v))]) (pc := 79) d_Mo_set_79 (by decide) rfl) ?_
  refine px (fun _ => pm_aload_n (pc := 81) d_Mo_set_81 rfl) ?_
  refine px (fun _ => pm_iload (pc := 82) d_Mo_set_82 rfl) ?_
  refine pxn (fun _ => pm_if_ne (pc := 84) (tgt := 107) d_Mo_set_84 (by decide)) (fun c_10 => absurd (by decide) c_10) (fun c_10 => ?_)
  refine px (fun _ => pm_aload_n (pc := 87) d_Mo_set_87 rfl) ?_
  refine px (fun _ => pm_getf fl_Mo_13 (pc := 88) d_Mo_set_88 H.1 rfl) ?_
  refine px (fun _ => pm_iload_n (pc := 91) d_Mo_set_91 rfl) ?_
  refine px (fun _ => pm_iald (j := j) (pc := 92) d_Mo_set_92 H.2.2.1 (rfl) (hj) (by decide)) ?_
  refine px (fun _ => pm_iconst (v := 1) (pc := 93) d_Mo_set_93 rfl) ?_
  refine pxn (fun _ => pm_icmp_ne (pc := 94) (tgt := 111) d_Mo_set_94 (by decide)) (fun c_11 => ?_) (fun c_11 => absurd c_11 (by rw [htt]; decide))
  refine px (fun _ => pm_iconst (v := 0) (pc := 111) d_Mo_set_111 rfl) ?_
  refine px (fun _ => pm_putfC (c' := pm_Ob 4 [.ref (96), .ref (97), .ref (98), .ref (99), .ref (100), .ref (101), .ref (102), .ref (103), .ref (104), .ref (105), .ref (106), .ref (107), .ref (108), .ref (109), .int (nI (mG T 0)), .int (nI (mG T 1)), .int (nI (mG T 2)), .int (nI (mG T 3)), .int (nI (mG T 4)), .int (0), .int (nI (mG T 6))]) fp_Mo_57 (pc := 112) d_Mo_set_112 H.1 (Nat.le_of_ble_eq_true rfl) rfl rfl rfl) ?_
  have H_12 : mH (msG T 5 0) (h.set (95) (pm_Ob 4 [.ref (96), .ref (97), .ref (98), .ref (99), .ref (100), .ref (101), .ref (102), .ref (103), .ref (104), .ref (105), .ref (106), .ref (107), .ref (108), .ref (109), .int (nI (mG T 0)), .int (nI (mG T 1)), .int (nI (mG T 2)), .int (nI (mG T 3)), .int (nI (mG T 4)), .int (0), .int (nI (mG T 6))])) := H.G5 (v := 0)
  refine px (fun _ => pm_aload_n (pc := 115) d_Mo_set_115 rfl) ?_
  refine px (fun _ => pm_getf fl_Mo_57 (pc := 116) d_Mo_set_116 H_12.1 rfl) ?_
  refine pxb (fun _ => pm_if_eq (pc := 119) (tgt := 123) d_Mo_set_119 (by decide)) (fun c_13 => ?_) (fun c_13 => absurd (rfl) c_13)
  refine px (fun _ => pm_aload_n (pc := 123) d_Mo_set_123 rfl) ?_
  refine px (fun _ => pm_getf fl_Mo_25 (pc := 124) d_Mo_set_124 H_12.1 rfl) ?_
  refine px (fun _ => pm_iload_n (pc := 127) d_Mo_set_127 rfl) ?_
  refine px (fun _ => pm_bipush (v := 16) (pc := 128) d_Mo_set_128 rfl) ?_
  refine px (fun _ => pm_imulN (a := j) (b := 16) (pc := 130) d_Mo_set_130) ?_
  refine px (fun _ => pm_iload_n (pc := 131) d_Mo_set_131 rfl) ?_
  refine px (fun _ => pm_iconst (v := 4) (pc := 132) d_Mo_set_132 rfl) ?_
  refine px (fun _ => pm_imulN (a := x) (b := 4) (pc := 133) d_Mo_set_133) ?_
  refine px (fun _ => pm_iaddN (a := (j * 16)) (b := (x * 4)) (pc := 134) d_Mo_set_134) ?_
  refine px (fun _ => pm_iload_n (pc := 135) d_Mo_set_135 rfl) ?_
  refine px (fun _ => pm_iaddN (a := ((j * 16) + (x * 4))) (b := y) (pc := 136) d_Mo_set_136) ?_
  refine px (fun _ => pm_aload_n (pc := 137) d_Mo_set_137 rfl) ?_
  refine px (fun _ => pm_getf fl_Mo_13 (pc := 138) d_Mo_set_138 H_12.1 rfl) ?_
  refine px (fun _ => pm_iload_n (pc := 141) d_Mo_set_141 rfl) ?_
  refine px (fun _ => pm_iald (j := j) (pc := 142) d_Mo_set_142 H_12.2.2.1 (rfl) (hj) (by decide)) ?_
  refine px (fun _ => pm_iconst (v := 1) (pc := 143) d_Mo_set_143 rfl) ?_
  refine pxn (fun _ => pm_icmp_ne (pc := 144) (tgt := 154) d_Mo_set_144 (by decide)) (fun c_14 => ?_) (fun c_14 => absurd c_14 (fun q => absurd (show nI (mA T 1 j) = 1 from q) (by rw [htt]; decide)))
  refine px (fun _ => pm_dload (pc := 154) d_Mo_set_154 rfl) ?_
  refine px (fun _ => pm_dast (j := j * 16 + x * 4 + y) (pc := 156) d_Mo_set_156 H_12.2.2.2.2.2.2.1 (rfl) (by omega) (by decide)) ?_
  have H_15 : mH (msV (msG T 5 0) (j * 16 + x * 4 + y) v) ((h.set (95) (pm_Ob 4 [.ref (96), .ref (97), .ref (98), .ref (99), .ref (100), .ref (101), .ref (102), .ref (103), .ref (104), .ref (105), .ref (106), .ref (107), .ref (108), .ref (109), .int (nI (mG T 0)), .int (nI (mG T 1)), .int (nI (mG T 2)), .int (nI (mG T 3)), .int (nI (mG T 4)), .int (0), .int (nI (mG T 6))])).set (101) (pm_Dd 320 (va_up (mV (msG T 5 0)) (j * 16 + x * 4 + y) (v)))) := H_12.V (j := j * 16 + x * 4 + y) (v := v)
  refine px (fun _ => pm_aload_n (pc := 157) d_Mo_set_157 rfl) ?_
  refine px (fun _ => pm_getf fl_Mo_7 (pc := 158) d_Mo_set_158 H_15.1 rfl) ?_
  refine px (fun _ => pm_iload_n (pc := 161) d_Mo_set_161 rfl) ?_
  refine px (fun _ => pm_iald (j := j) (pc := 162) d_Mo_set_162 H_15.2.1 (rfl) (hj) (by decide)) ?_
  refine px (fun _ => pm_iconst (v := 2) (pc := 163) d_Mo_set_163 rfl) ?_
  refine pxn (fun _ => pm_icmp_ne (pc := 164) (tgt := 174) d_Mo_set_164 (by decide)) (fun c_16 => ?_) (fun c_16 => absurd c_16 (fun q => absurd (show nI (mA T 0 j) = 2 from q) (by rw [hkk]; decide)))
  refine px (fun _ => pm_iconst (v := 0) (pc := 174) d_Mo_set_174 rfl) ?_
  refine px (fun _ => pm_istore (lv' := [(7, .int (0)), (6, .int (0)), (0, .ref (95)), (1, .int (nI j)), (2, .int (nI x)), (3, .int (nI y)), (4, .double (v))]) (pc := 175) d_Mo_set_175 (by decide) rfl) ?_
  refine pxd [0, 2] rfl ?_
  refine lp_mset 14 0 _ _ H_15 (by omega) (fun h5 H5 F5 => ?_)
  exact pxr (pm_vret (pc := 209) d_Mo_set_209 rfl) ⟨rfl, H5, ((mFr.set _ _ (by omega))).tr (((mFr.set _ _ (by omega))).tr (F5))⟩
set_option maxHeartbeats 1000000 in
set_option maxRecDepth 20000 in
theorem m_set_ok02 {l : Launch} {G : pm_G} {fi : Bool} {h : pm_H} {T : mS} {j x y : Nat} {v : UInt64} (hl : l.stackTraces = false) (H : mH T h) (hj : j < 20) (h4 : mA T 2 j ≤ 4) (h5 : mA T 3 j ≤ 4) (hx : x < mA T 2 j) (hy : y < mA T 3 j) (htt : mA T 1 j = 0) (hkk : mA T 0 j = 2) (hv : g_st 0 v) : pm_Cn l G fi fi 0 0 M_Mo_set [.ref (95), .int (nI j), .int (nI x), .int (nI y), .double (v)] h (m_P none (mChg (msS T j x y v)) h) := by
  refine pm_Cn.of hl (by decide) (Nat.le_of_ble_eq_true rfl) ?_
  refine px (fun _ => pm_aload_n (pc := 0) d_Mo_set_0 rfl) ?_
  refine px (fun _ => pm_iload_n (pc := 1) d_Mo_set_1 rfl) ?_
  refine px (fun _ => k_Mo_set_2 (kc1 := 0) (ks1 := 0) (kc := 0) (ks := 0) (av := [.int (nI j)]) (st := []) H.1 (m_ns_in hl H hj) rfl rfl (Nat.le_of_ble_eq_true rfl)) ?_
  refine pxn (fun _ => pm_if_ne (pc := 5) (tgt := 74) d_Mo_set_5 (by decide)) (fun c_1 => absurd (by decide) c_1) (fun c_1 => ?_)
  refine px (fun _ => pm_aload_n (pc := 8) d_Mo_set_8 rfl) ?_
  refine px (fun _ => pm_getf fl_Mo_7 (pc := 9) d_Mo_set_9 H.1 rfl) ?_
  refine px (fun _ => pm_iload_n (pc := 12) d_Mo_set_12 rfl) ?_
  refine px (fun _ => pm_iald (j := j) (pc := 13) d_Mo_set_13 H.2.1 (rfl) (hj) (by decide)) ?_
  refine px (fun _ => pm_iconst (v := 1) (pc := 14) d_Mo_set_14 rfl) ?_
  refine pxb (fun _ => pm_icmp_lt (pc := 15) (tgt := 74) d_Mo_set_15 (by decide)) (fun c_2 => absurd c_2 (by rw [hkk]; decide)) (fun c_2 => ?_)
  refine px (fun _ => pm_aload_n (pc := 18) d_Mo_set_18 rfl) ?_
  refine px (fun _ => pm_getf fl_Mo_7 (pc := 19) d_Mo_set_19 H.1 rfl) ?_
  refine px (fun _ => pm_iload_n (pc := 22) d_Mo_set_22 rfl) ?_
  refine px (fun _ => pm_iald (j := j) (pc := 23) d_Mo_set_23 H.2.1 (rfl) (hj) (by decide)) ?_
  refine px (fun _ => pm_iconst (v := 2) (pc := 24) d_Mo_set_24 rfl) ?_
  refine pxb (fun _ => pm_icmp_gt (pc := 25) (tgt := 74) d_Mo_set_25 (by decide)) (fun c_3 => absurd c_3 (by rw [hkk]; decide)) (fun c_3 => ?_)
  refine px (fun _ => pm_iload_n (pc := 28) d_Mo_set_28 rfl) ?_
  refine pxb (fun _ => pm_if_lt (pc := 29) (tgt := 74) d_Mo_set_29 (by decide)) (fun c_4 => absurd c_4 (nI_pos (by omega))) (fun c_4 => ?_)
  refine px (fun _ => pm_iload_n (pc := 32) d_Mo_set_32 rfl) ?_
  refine pxb (fun _ => pm_if_lt (pc := 33) (tgt := 74) d_Mo_set_33 (by decide)) (fun c_5 => absurd c_5 (nI_pos (by omega))) (fun c_5 => ?_)
  refine px (fun _ => pm_iload_n (pc := 36) d_Mo_set_36 rfl) ?_
  refine px (fun _ => pm_aload_n (pc := 37) d_Mo_set_37 rfl) ?_
  refine px (fun _ => pm_getf fl_Mo_16 (pc := 38) d_Mo_set_38 H.1 rfl) ?_
  refine px (fun _ => pm_iload_n (pc := 41) d_Mo_set_41 rfl) ?_
  refine px (fun _ => pm_iald (j := j) (pc := 42) d_Mo_set_42 H.2.2.2.1 (rfl) (hj) (by decide)) ?_
  refine pxb (fun _ => pm_icmp_ge (pc := 43) (tgt := 74) d_Mo_set_43 (by decide)) (fun c_6 => absurd c_6 (fun q => absurd ((nI_leI (a := mA T 2 j) (b := x) (by omega) (by omega)).mp q) (by omega))) (fun c_6 => ?_)
  refine px (fun _ => pm_iload_n (pc := 46) d_Mo_set_46 rfl) ?_
  refine px (fun _ => pm_aload_n (pc := 47) d_Mo_set_47 rfl) ?_
  refine px (fun _ => pm_getf fl_Mo_19 (pc := 48) d_Mo_set_48 H.1 rfl) ?_
  refine px (fun _ => pm_iload_n (pc := 51) d_Mo_set_51 rfl) ?_
  refine px (fun _ => pm_iald (j := j) (pc := 52) d_Mo_set_52 H.2.2.2.2.1 (rfl) (hj) (by decide)) ?_
  refine pxb (fun _ => pm_icmp_ge (pc := 53) (tgt := 74) d_Mo_set_53 (by decide)) (fun c_7 => absurd c_7 (fun q => absurd ((nI_leI (a := mA T 3 j) (b := y) (by omega) (by omega)).mp q) (by omega))) (fun c_7 => ?_)
  refine px (fun _ => pm_dload (pc := 56) d_Mo_set_56 rfl) ?_
  refine px (fun _ => pm_ldc2d (pc := 58) d_Mo_set_58 tw_704) ?_
  refine px (fun _ => pm_dcmp (pc := 61) d_Mo_set_61) ?_
  refine pxb (fun _ => pm_if_lt (pc := 62) (tgt := 74) d_Mo_set_62 (by decide)) (fun c_8 => absurd c_8 (hv.1.1)) (fun c_8 => ?_)
  refine px (fun _ => pm_dload (pc := 65) d_Mo_set_65 rfl) ?_
  refine px (fun _ => pm_ldc2d (pc := 67) d_Mo_set_67 tw_705) ?_
  refine px (fun _ => pm_dcmp (pc := 70) d_Mo_set_70) ?_
  refine pxb (fun _ => pm_if_le (pc := 71) (tgt := 78) d_Mo_set_71 (by decide)) (fun c_9 => ?_) (fun c_9 => absurd (Int32.not_lt.mp hv.1.2) c_9)
  refine px (fun _ => pm_iconst (v := 0) (pc := 78) d_Mo_set_78 rfl) ?_
  refine px (fun _ => pm_istore (lv' := [(6, .int (0)), (0, .ref (95)), (1, .int (nI j)), (2, .int (nI x)), (3, .int (nI y)), (4, .double (v))]) (pc := 79) d_Mo_set_79 (by decide) rfl) ?_
  refine px (fun _ => pm_aload_n (pc := 81) d_Mo_set_81 rfl) ?_
  refine px (fun _ => pm_iload (pc := 82) d_Mo_set_82 rfl) ?_
  refine pxn (fun _ => pm_if_ne (pc := 84) (tgt := 107) d_Mo_set_84 (by decide)) (fun c_10 => absurd (by decide) c_10) (fun c_10 => ?_)
  refine px (fun _ => pm_aload_n (pc := 87) d_Mo_set_87 rfl) ?_
  refine px (fun _ => pm_getf fl_Mo_13 (pc := 88) d_Mo_set_88 H.1 rfl) ?_
  refine px (fun _ => pm_iload_n (pc := 91) d_Mo_set_91 rfl) ?_
  refine px (fun _ => pm_iald (j := j) (pc := 92) d_Mo_set_92 H.2.2.1 (rfl) (hj) (by decide)) ?_
  refine px (fun _ => pm_iconst (v := 1) (pc := 93) d_Mo_set_93 rfl) ?_
  refine pxn (fun _ => pm_icmp_ne (pc := 94) (tgt := 111) d_Mo_set_94 (by decide)) (fun c_11 => ?_) (fun c_11 => absurd c_11 (by rw [htt]; decide))
  refine px (fun _ => pm_iconst (v := 0) (pc := 111) d_Mo_set_111 rfl) ?_
  refine px (fun _ => pm_putfC (c' := pm_Ob 4 [.ref (96), .ref (97), .ref (98), .ref (99), .ref (100), .ref (101), .ref (102), .ref (103), .ref (104), .ref (105), .ref (106), .ref (107), .ref (108), .ref (109), .int (nI (mG T 0)), .int (nI (mG T 1)), .int (nI (mG T 2)), .int (nI (mG T 3)), .int (nI (mG T 4)), .int (0), .int (nI (mG T 6))]) fp_Mo_57 (pc := 112) d_Mo_set_112 H.1 (Nat.le_of_ble_eq_true rfl) rfl rfl rfl) ?_
  have H_12 : mH (msG T 5 0) (h.set (95) (pm_Ob 4 [.ref (96), .ref (97), .ref (98), .ref (99), .ref (100), .ref (101), .ref (102), .ref (103), .ref (104), .ref (105), .ref (106), .ref (107), .ref (108), .ref (109), .int (nI (mG T 0)), .int (nI (mG T 1)), .int (nI (mG T 2)), .int (nI (mG T 3)), .int (nI (mG T 4)), .int (0), .int (nI (mG T 6))])) := H.G5 (v := 0)
  refine px (fun _ => pm_aload_n (pc := 115) d_Mo_set_115 rfl) ?_
  refine px (fun _ => pm_getf fl_Mo_57 (pc := 116) d_Mo_set_116 H_12.1 rfl) ?_
  refine pxb (fun _ => pm_if_eq (pc := 119) (tgt := 123) d_Mo_set_119 (by decide)) (fun c_13 => ?_) (fun c_13 => absurd (rfl) c_13)
  refine px (fun _ => pm_aload_n (pc := 123) d_Mo_set_123 rfl) ?_
  refine px (fun _ => pm_getf fl_Mo_25 (pc := 124) d_Mo_set_124 H_12.1 rfl) ?_
  refine px (fun _ => pm_iload_n (pc := 127) d_Mo_set_127 rfl) ?_
  refine px (fun _ => pm_bipush (v := 16) (pc := 128) d_Mo_set_128 rfl) ?_
  refine px (fun _ => pm_imulN (a := j) (b := 16) (pc := 130) d_Mo_set_130) ?_
  refine px (fun _ => pm_iload_n (pc := 131) d_Mo_set_131 rfl) ?_
  refine px (fun _ => pm_iconst (v := 4) (pc := 132) d_Mo_set_132 rfl) ?_
  refine px (fun _ => pm_imulN (a := x) (b := 4) (pc := 133) d_Mo_set_133) ?_
  refine px (fun _ => pm_iaddN (a := (j * 16)) (b := (x * 4)) (pc := 134) d_Mo_set_134) ?_
  refine px (fun _ => pm_iload_n (pc := 135) d_Mo_set_135 rfl) ?_
  refine px (fun _ => pm_iaddN (a := ((j * 16) + (x * 4))) (b := y) (pc := 136) d_Mo_set_136) ?_
  refine px (fun _ => pm_aload_n (pc := 137) d_Mo_set_137 rfl) ?_
  refine px (fun _ => pm_getf fl_Mo_13 (pc := 138) d_Mo_set_138 H_12.1 rfl) ?_
  refine px (fun _ => pm_iload_n (pc := 141) d_Mo_set_141 rfl) ?_
  refine px (fun _ => pm_iald (j := j) (pc := 142) d_Mo_set_142 H_12.2.2.1 (rfl) (hj) (by decide)) ?_
  refine px (fun _ => pm_iconst (v := 1) (pc := 143) d_Mo_set_143 rfl) ?_
  refine pxn (fun _ => pm_icmp_ne (pc := 144) (tgt := 154) d_Mo_set_144 (by decide)) (fun c_14 => ?_) (fun c_14 => absurd c_14 (fun q => absurd (show nI (mA T 1 j) = 1 from q) (by rw [htt]; decide)))
  refine px (fun _ => pm_dload (pc := 154) d_Mo_set_154 rfl) ?_
  refine px (fun _ => pm_dast (j := j * 16 + x * 4 + y) (pc := 156) d_Mo_set_156 H_12.2.2.2.2.2.2.1 (rfl) (by omega) (by decide)) ?_
  have H_15 : mH (msV (msG T 5 0) (j * 16 + x * 4 + y) v) ((h.set (95) (pm_Ob 4 [.ref (96), .ref (97), .ref (98), .ref (99), .ref (100), .ref (101), .ref (102), .ref (103), .ref (104), .ref (105), .ref (106), .ref (107), .ref (108), .ref (109), .int (nI (mG T 0)), .int (nI (mG T 1)), .int (nI (mG T 2)), .int (nI (mG T 3)), .int (nI (mG T 4)), .int (0), .int (nI (mG T 6))])).set (101) (pm_Dd 320 (va_up (mV (msG T 5 0)) (j * 16 + x * 4 + y) (v)))) := H_12.V (j := j * 16 + x * 4 + y) (v := v)
  refine px (fun _ => pm_aload_n (pc := 157) d_Mo_set_157 rfl) ?_
  refine px (fun _ => pm_getf fl_Mo_7 (pc := 158) d_Mo_set_158 H_15.1 rfl) ?_
  refine px (fun _ => pm_iload_n (pc := 161) d_Mo_set_161 rfl) ?_
  refine px (fun _ => pm_iald (j := j) (pc := 162) d_Mo_set_162 H_15.2.1 (rfl) (hj) (by decide)) ?_
  refine px (fun _ => pm_iconst (v := 2) (pc := 163) d_Mo_set_163 rfl) ?_
  refine pxn (fun _ => pm_icmp_ne (pc := 164) (tgt := 174) d_Mo_set_164 (by decide)) (fun c_16 => absurd (show nI (mA T 0 j) = 2 by rw [hkk]; rfl) c_16) (fun c_16 => ?_)
  refine px (fun _ => pm_aload_n (pc := 167) d_Mo_set_167 rfl) ?_
  obtain ⟨⟨o17, h17⟩, ⟨e17, H17, F17⟩, en17⟩ := m_change (l := l) (G := G) (fi := fi) (T := msV (msG T 5 0) (j * 16 + x * 4 + y) v) hl H_15
  dsimp only at e17 H17 F17
  subst e17
  refine px (fun _ => k_Mo_set_168 (kc1 := 0) (ks1 := 0) (kc := 0) (ks := 0) (av := []) (st := []) H_15.1 (en17) rfl rfl (Nat.le_of_ble_eq_true rfl)) ?_
  refine px (fun _ => pm_goto (tgt := 209) (pc := 171) d_Mo_set_171 (by decide)) ?_
  exact pxr (pm_vret (pc := 209) d_Mo_set_209 rfl) ⟨rfl, H17, ((mFr.set _ _ (by omega))).tr (((mFr.set _ _ (by omega))).tr (F17))⟩
set_option maxHeartbeats 1000000 in
set_option maxRecDepth 20000 in
theorem m_set_ok11 {l : Launch} {G : pm_G} {fi : Bool} {h : pm_H} {T : mS} {j x y : Nat} {v : UInt64} (hl : l.stackTraces = false) (H : mH T h) (hj : j < 20) (h4 : mA T 2 j ≤ 4) (h5 : mA T 3 j ≤ 4) (hx : x < mA T 2 j) (hy : y < mA T 3 j) (htt : mA T 1 j = 1) (hkk : mA T 0 j = 1) (hv : g_st 1 v) : pm_Cn l G fi fi 0 0 M_Mo_set [.ref (95), .int (nI j), .int (nI x), .int (nI y), .double (v)] h (m_P none (msK (msS T j x y (FP.i2d (FP.d2i v))) 0) h) := by
  refine pm_Cn.of hl (by decide) (Nat.le_of_ble_eq_true rfl) ?_
  refine px (fun _ => pm_aload_n (pc := 0) d_Mo_set_0 rfl) ?_
  refine px (fun _ => pm_iload_n (pc := 1) d_Mo_set_1 rfl) ?_
  refine px (fun _ => k_Mo_set_2 (kc1 := 0) (ks1 := 0) (kc := 0) (ks := 0) (av := [.int (nI j)]) (st := []) H.1 (m_ns_in hl H hj) rfl rfl (Nat.le_of_ble_eq_true rfl)) ?_
  refine pxn (fun _ => pm_if_ne (pc := 5) (tgt := 74) d_Mo_set_5 (by decide)) (fun c_1 => absurd (by decide) c_1) (fun c_1 => ?_)
  refine px (fun _ => pm_aload_n (pc := 8) d_Mo_set_8 rfl) ?_
  refine px (fun _ => pm_getf fl_Mo_7 (pc := 9) d_Mo_set_9 H.1 rfl) ?_
  refine px (fun _ => pm_iload_n (pc := 12) d_Mo_set_12 rfl) ?_
  refine px (fun _ => pm_iald (j := j) (pc := 13) d_Mo_set_13 H.2.1 (rfl) (hj) (by decide)) ?_
  refine px (fun _ => pm_iconst (v := 1) (pc := 14) d_Mo_set_14 rfl) ?_
  refine pxb (fun _ => pm_icmp_lt (pc := 15) (tgt := 74) d_Mo_set_15 (by decide)) (fun c_2 => absurd c_2 (by rw [hkk]; decide)) (fun c_2 => ?_)
  refine px (fun _ => pm_aload_n (pc := 18) d_Mo_set_18 rfl) ?_
  refine px (fun _ => pm_getf fl_Mo_7 (pc := 19) d_Mo_set_19 H.1 rfl) ?_
  refine px (fun _ => pm_iload_n (pc := 22) d_Mo_set_22 rfl) ?_
  refine px (fun _ => pm_iald (j := j) (pc := 23) d_Mo_set_23 H.2.1 (rfl) (hj) (by decide)) ?_
  refine px (fun _ => pm_iconst (v := 2) (pc := 24) d_Mo_set_24 rfl) ?_
  refine pxb (fun _ => pm_icmp_gt (pc := 25) (tgt := 74) d_Mo_set_25 (by decide)) (fun c_3 => absurd c_3 (by rw [hkk]; decide)) (fun c_3 => ?_)
  refine px (fun _ => pm_iload_n (pc := 28) d_Mo_set_28 rfl) ?_
  refine pxb (fun _ => pm_if_lt (pc := 29) (tgt := 74) d_Mo_set_29 (by decide)) (fun c_4 => absurd c_4 (nI_pos (by omega))) (fun c_4 => ?_)
  refine px (fun _ => pm_iload_n (pc := 32) d_Mo_set_32 rfl) ?_
  refine pxb (fun _ => pm_if_lt (pc := 33) (tgt := 74) d_Mo_set_33 (by decide)) (fun c_5 => absurd c_5 (nI_pos (by omega))) (fun c_5 => ?_)
  refine px (fun _ => pm_iload_n (pc := 36) d_Mo_set_36 rfl) ?_
  refine px (fun _ => pm_aload_n (pc := 37) d_Mo_set_37 rfl) ?_
  refine px (fun _ => pm_getf fl_Mo_16 (pc := 38) d_Mo_set_38 H.1 rfl) ?_
  refine px (fun _ => pm_iload_n (pc := 41) d_Mo_set_41 rfl) ?_
  refine px (fun _ => pm_iald (j := j) (pc := 42) d_Mo_set_42 H.2.2.2.1 (rfl) (hj) (by decide)) ?_
  refine pxb (fun _ => pm_icmp_ge (pc := 43) (tgt := 74) d_Mo_set_43 (by decide)) (fun c_6 => absurd c_6 (fun q => absurd ((nI_leI (a := mA T 2 j) (b := x) (by omega) (by omega)).mp q) (by omega))) (fun c_6 => ?_)
  refine px (fun _ => pm_iload_n (pc := 46) d_Mo_set_46 rfl) ?_
  refine px (fun _ => pm_aload_n (pc := 47) d_Mo_set_47 rfl) ?_
  refine px (fun _ => pm_getf fl_Mo_19 (pc := 48) d_Mo_set_48 H.1 rfl) ?_
  refine px (fun _ => pm_iload_n (pc := 51) d_Mo_set_51 rfl) ?_
  refine px (fun _ => pm_iald (j := j) (pc := 52) d_Mo_set_52 H.2.2.2.2.1 (rfl) (hj) (by decide)) ?_
  refine pxb (fun _ => pm_icmp_ge (pc := 53) (tgt := 74) d_Mo_set_53 (by decide)) (fun c_7 => absurd c_7 (fun q => absurd ((nI_leI (a := mA T 3 j) (b := y) (by omega) (by omega)).mp q) (by omega))) (fun c_7 => ?_)
  refine px (fun _ => pm_dload (pc := 56) d_Mo_set_56 rfl) ?_
  refine px (fun _ => pm_ldc2d (pc := 58) d_Mo_set_58 tw_704) ?_
  refine px (fun _ => pm_dcmp (pc := 61) d_Mo_set_61) ?_
  refine pxb (fun _ => pm_if_lt (pc := 62) (tgt := 74) d_Mo_set_62 (by decide)) (fun c_8 => absurd c_8 (hv.1.1)) (fun c_8 => ?_)
  refine px (fun _ => pm_dload (pc := 65) d_Mo_set_65 rfl) ?_
  refine px (fun _ => pm_ldc2d (pc := 67) d_Mo_set_67 tw_705) ?_
  refine px (fun _ => pm_dcmp (pc := 70) d_Mo_set_70) ?_
  refine pxb (fun _ => pm_if_le (pc := 71) (tgt := 78) d_Mo_set_71 (by decide)) (fun c_9 => ?_) (fun c_9 => absurd (Int32.not_lt.mp hv.1.2) c_9)
  refine px (fun _ => pm_iconst (v := 0) (pc := 78) d_Mo_set_78 rfl) ?_
  refine px (fun _ => pm_istore (lv' := [(6, .int (0)), (0, .ref (95)), (1, .int (nI j)), (2, .int (nI x)), (3, .int (nI y)), (4, .double (v))]) (pc := 79) d_Mo_set_79 (by decide) rfl) ?_
  refine px (fun _ => pm_aload_n (pc := 81) d_Mo_set_81 rfl) ?_
  refine px (fun _ => pm_iload (pc := 82) d_Mo_set_82 rfl) ?_
  refine pxn (fun _ => pm_if_ne (pc := 84) (tgt := 107) d_Mo_set_84 (by decide)) (fun c_10 => absurd (by decide) c_10) (fun c_10 => ?_)
  refine px (fun _ => pm_aload_n (pc := 87) d_Mo_set_87 rfl) ?_
  refine px (fun _ => pm_getf fl_Mo_13 (pc := 88) d_Mo_set_88 H.1 rfl) ?_
  refine px (fun _ => pm_iload_n (pc := 91) d_Mo_set_91 rfl) ?_
  refine px (fun _ => pm_iald (j := j) (pc := 92) d_Mo_set_92 H.2.2.1 (rfl) (hj) (by decide)) ?_
  refine px (fun _ => pm_iconst (v := 1) (pc := 93) d_Mo_set_93 rfl) ?_
  refine pxn (fun _ => pm_icmp_ne (pc := 94) (tgt := 111) d_Mo_set_94 (by decide)) (fun c_11 => absurd (by rw [htt]; rfl) c_11) (fun c_11 => ?_)
  refine px (fun _ => pm_dload (pc := 97) d_Mo_set_97 rfl) ?_
  refine px (fun _ => pm_dload (pc := 99) d_Mo_set_99 rfl) ?_
  refine px (fun _ => pm_d2i (pc := 101) d_Mo_set_101) ?_
  refine px (fun _ => pm_i2d (pc := 102) d_Mo_set_102) ?_
  refine px (fun _ => pm_dcmp (pc := 103) d_Mo_set_103) ?_
  refine pxb (fun _ => pm_if_eq (pc := 104) (tgt := 111) d_Mo_set_104 (by decide)) (fun c_12 => ?_) (fun c_12 => absurd (hv.2.resolve_left (by decide)) c_12)
  refine px (fun _ => pm_iconst (v := 0) (pc := 111) d_Mo_set_111 rfl) ?_
  refine px (fun _ => pm_putfC (c' := pm_Ob 4 [.ref (96), .ref (97), .ref (98), .ref (99), .ref (100), .ref (101), .ref (102), .ref (103), .ref (104), .ref (105), .ref (106), .ref (107), .ref (108), .ref (109), .int (nI (mG T 0)), .int (nI (mG T 1)), .int (nI (mG T 2)), .int (nI (mG T 3)), .int (nI (mG T 4)), .int (0), .int (nI (mG T 6))]) fp_Mo_57 (pc := 112) d_Mo_set_112 H.1 (Nat.le_of_ble_eq_true rfl) rfl rfl rfl) ?_
  have H_13 : mH (msG T 5 0) (h.set (95) (pm_Ob 4 [.ref (96), .ref (97), .ref (98), .ref (99), .ref (100), .ref (101), .ref (102), .ref (103), .ref (104), .ref (105), .ref (106), .ref (107), .ref (108), .ref (109), .int (nI (mG T 0)), .int (nI (mG T 1)), .int (nI (mG T 2)), .int (nI (mG T 3)), .int (nI (mG T 4)), .int (0), .int (nI (mG T 6))])) := H.G5 (v := 0)
  refine px (fun _ => pm_aload_n (pc := 115) d_Mo_set_115 rfl) ?_
  refine px (fun _ => pm_getf fl_Mo_57 (pc := 116) d_Mo_set_116 H_13.1 rfl) ?_
  refine pxb (fun _ => pm_if_eq (pc := 119) (tgt := 123) d_Mo_set_119 (by decide)) (fun c_14 => ?_) (fun c_14 => absurd (rfl) c_14)
  refine px (fun _ => pm_aload_n (pc := 123) d_Mo_set_123 rfl) ?_
  refine px (fun _ => pm_getf fl_Mo_25 (pc := 124) d_Mo_set_124 H_13.1 rfl) ?_
  refine px (fun _ => pm_iload_n (pc := 127) d_Mo_set_127 rfl) ?_
  refine px (fun _ => pm_bipush (v := 16) (pc := 128) d_Mo_set_128 rfl) ?_
  refine px (fun _ => pm_imulN (a := j) (b := 16) (pc := 130) d_Mo_set_130) ?_
  refine px (fun _ => pm_iload_n (pc := 131) d_Mo_set_131 rfl) ?_
  refine px (fun _ => pm_iconst (v := 4) (pc := 132) d_Mo_set_132 rfl) ?_
  refine px (fun _ => pm_imulN (a := x) (b := 4) (pc := 133) d_Mo_set_133) ?_
  refine px (fun _ => pm_iaddN (a := (j * 16)) (b := (x * 4)) (pc := 134) d_Mo_set_134) ?_
  refine px (fun _ => pm_iload_n (pc := 135) d_Mo_set_135 rfl) ?_
  refine px (fun _ => pm_iaddN (a := ((j * 16) + (x * 4))) (b := y) (pc := 136) d_Mo_set_136) ?_
  refine px (fun _ => pm_aload_n (pc := 137) d_Mo_set_137 rfl) ?_
  refine px (fun _ => pm_getf fl_Mo_13 (pc := 138) d_Mo_set_138 H_13.1 rfl) ?_
  refine px (fun _ => pm_iload_n (pc := 141) d_Mo_set_141 rfl) ?_
  refine px (fun _ => pm_iald (j := j) (pc := 142) d_Mo_set_142 H_13.2.2.1 (rfl) (hj) (by decide)) ?_
  refine px (fun _ => pm_iconst (v := 1) (pc := 143) d_Mo_set_143 rfl) ?_
  refine pxn (fun _ => pm_icmp_ne (pc := 144) (tgt := 154) d_Mo_set_144 (by decide)) (fun c_15 => absurd (show nI (mA T 1 j) = 1 by rw [htt]; rfl) c_15) (fun c_15 => ?_)
  refine px (fun _ => pm_dload (pc := 147) d_Mo_set_147 rfl) ?_
  refine px (fun _ => pm_d2i (pc := 149) d_Mo_set_149) ?_
  refine px (fun _ => pm_i2d (pc := 150) d_Mo_set_150) ?_
  refine px (fun _ => pm_goto (tgt := 156) (pc := 151) d_Mo_set_151 (by decide)) ?_
  refine px (fun _ => pm_dast (j := j * 16 + x * 4 + y) (pc := 156) d_Mo_set_156 H_13.2.2.2.2.2.2.1 (rfl) (by omega) (by decide)) ?_
  have H_16 : mH (msV (msG T 5 0) (j * 16 + x * 4 + y) ((FP.i2d ((FP.d2i (v)))))) ((h.set (95) (pm_Ob 4 [.ref (96), .ref (97), .ref (98), .ref (99), .ref (100), .ref (101), .ref (102), .ref (103), .ref (104), .ref (105), .ref (106), .ref (107), .ref (108), .ref (109), .int (nI (mG T 0)), .int (nI (mG T 1)), .int (nI (mG T 2)), .int (nI (mG T 3)), .int (nI (mG T 4)), .int (0), .int (nI (mG T 6))])).set (101) (pm_Dd 320 (va_up (mV (msG T 5 0)) (j * 16 + x * 4 + y) ((FP.i2d ((FP.d2i (v)))))))) := H_13.V (j := j * 16 + x * 4 + y) (v := (FP.i2d ((FP.d2i (v)))))
  refine px (fun _ => pm_aload_n (pc := 157) d_Mo_set_157 rfl) ?_
  refine px (fun _ => pm_getf fl_Mo_7 (pc := 158) d_Mo_set_158 H_16.1 rfl) ?_
  refine px (fun _ => pm_iload_n (pc := 161) d_Mo_set_161 rfl) ?_
  refine px (fun _ => pm_iald (j := j) (pc := 162) d_Mo_set_162 H_16.2.1 (rfl) (hj) (by decide)) ?_
  refine px (fun _ => pm_iconst (v := 2) (pc := 163) d_Mo_set_163 rfl) ?_
  refine pxn (fun _ => pm_icmp_ne (pc := 164) (tgt := 174) d_Mo_set_164 (by decide)) (fun c_17 => ?_) (fun c_17 => absurd c_17 (fun q => absurd (show nI (mA T 0 j) = 2 from q) (by rw [hkk]; decide)))
  refine px (fun _ => pm_iconst (v := 0) (pc := 174) d_Mo_set_174 rfl) ?_
  refine px (fun _ => pm_istore (lv' := [(7, .int (0)), (6, .int (0)), (0, .ref (95)), (1, .int (nI j)), (2, .int (nI x)), (3, .int (nI y)), (4, .double (v))]) (pc := 175) d_Mo_set_175 (by decide) rfl) ?_
  refine pxd [0, 2] rfl ?_
  refine lp_mset 14 0 _ _ H_16 (by omega) (fun h5 H5 F5 => ?_)
  exact pxr (pm_vret (pc := 209) d_Mo_set_209 rfl) ⟨rfl, H5, ((mFr.set _ _ (by omega))).tr (((mFr.set _ _ (by omega))).tr (F5))⟩
set_option maxHeartbeats 1000000 in
set_option maxRecDepth 20000 in
theorem m_set_ok12 {l : Launch} {G : pm_G} {fi : Bool} {h : pm_H} {T : mS} {j x y : Nat} {v : UInt64} (hl : l.stackTraces = false) (H : mH T h) (hj : j < 20) (h4 : mA T 2 j ≤ 4) (h5 : mA T 3 j ≤ 4) (hx : x < mA T 2 j) (hy : y < mA T 3 j) (htt : mA T 1 j = 1) (hkk : mA T 0 j = 2) (hv : g_st 1 v) : pm_Cn l G fi fi 0 0 M_Mo_set [.ref (95), .int (nI j), .int (nI x), .int (nI y), .double (v)] h (m_P none (mChg (msS T j x y (FP.i2d (FP.d2i v)))) h) := by
  refine pm_Cn.of hl (by decide) (Nat.le_of_ble_eq_true rfl) ?_
  refine px (fun _ => pm_aload_n (pc := 0) d_Mo_set_0 rfl) ?_
  refine px (fun _ => pm_iload_n (pc := 1) d_Mo_set_1 rfl) ?_
  refine px (fun _ => k_Mo_set_2 (kc1 := 0) (ks1 := 0) (kc := 0) (ks := 0) (av := [.int (nI j)]) (st := []) H.1 (m_ns_in hl H hj) rfl rfl (Nat.le_of_ble_eq_true rfl)) ?_
  refine pxn (fun _ => pm_if_ne (pc := 5) (tgt := 74) d_Mo_set_5 (by decide)) (fun c_1 => absurd (by decide) c_1) (fun c_1 => ?_)
  refine px (fun _ => pm_aload_n (pc := 8) d_Mo_set_8 rfl) ?_
  refine px (fun _ => pm_getf fl_Mo_7 (pc := 9) d_Mo_set_9 H.1 rfl) ?_
  refine px (fun _ => pm_iload_n (pc := 12) d_Mo_set_12 rfl) ?_
  refine px (fun _ => pm_iald (j := j) (pc := 13) d_Mo_set_13 H.2.1 (rfl) (hj) (by decide)) ?_
  refine px (fun _ => pm_iconst (v := 1) (pc := 14) d_Mo_set_14 rfl) ?_
  refine pxb (fun _ => pm_icmp_lt (pc := 15) (tgt := 74) d_Mo_set_15 (by decide)) (fun c_2 => absurd c_2 (by rw [hkk]; decide)) (fun c_2 => ?_)
  refine px (fun _ => pm_aload_n (pc := 18) d_Mo_set_18 rfl) ?_
  refine px (fun _ => pm_getf fl_Mo_7 (pc := 19) d_Mo_set_19 H.1 rfl) ?_
  refine px (fun _ => pm_iload_n (pc := 22) d_Mo_set_22 rfl) ?_
  refine px (fun _ => pm_iald (j := j) (pc := 23) d_Mo_set_23 H.2.1 (rfl) (hj) (by decide)) ?_
  refine px (fun _ => pm_iconst (v := 2) (pc := 24) d_Mo_set_24 rfl) ?_
  refine pxb (fun _ => pm_icmp_gt (pc := 25) (tgt := 74) d_Mo_set_25 (by decide)) (fun c_3 => absurd c_3 (by rw [hkk]; decide)) (fun c_3 => ?_)
  refine px (fun _ => pm_iload_n (pc := 28) d_Mo_set_28 rfl) ?_
  refine pxb (fun _ => pm_if_lt (pc := 29) (tgt := 74) d_Mo_set_29 (by decide)) (fun c_4 => absurd c_4 (nI_pos (by omega))) (fun c_4 => ?_)
  refine px (fun _ => pm_iload_n (pc := 32) d_Mo_set_32 rfl) ?_
  refine pxb (fun _ => pm_if_lt (pc := 33) (tgt := 74) d_Mo_set_33 (by decide)) (fun c_5 => absurd c_5 (nI_pos (by omega))) (fun c_5 => ?_)
  refine px (fun _ => pm_iload_n (pc := 36) d_Mo_set_36 rfl) ?_
  refine px (fun _ => pm_aload_n (pc := 37) d_Mo_set_37 rfl) ?_
  refine px (fun _ => pm_getf fl_Mo_16 (pc := 38) d_Mo_set_38 H.1 rfl) ?_
  refine px (fun _ => pm_iload_n (pc := 41) d_Mo_set_41 rfl) ?_
  refine px (fun _ => pm_iald (j := j) (pc := 42) d_Mo_set_42 H.2.2.2.1 (rfl) (hj) (by decide)) ?_
  refine pxb (fun _ => pm_icmp_ge (pc := 43) (tgt := 74) d_Mo_set_43 (by decide)) (fun c_6 => absurd c_6 (fun q => absurd ((nI_leI (a := mA T 2 j) (b := x) (by omega) (by omega)).mp q) (by omega))) (fun c_6 => ?_)
  refine px (fun _ => pm_iload_n (pc := 46) d_Mo_set_46 rfl) ?_
  refine px (fun _ => pm_aload_n (pc := 47) d_Mo_set_47 rfl) ?_
  refine px (fun _ => pm_getf fl_Mo_19 (pc := 48) d_Mo_set_48 H.1 rfl) ?_
  refine px (fun _ => pm_iload_n (pc := 51) d_Mo_set_51 rfl) ?_
  refine px (fun _ => pm_iald (j := j) (pc := 52) d_Mo_set_52 H.2.2.2.2.1 (rfl) (hj) (by decide)) ?_
  refine pxb (fun _ => pm_icmp_ge (pc := 53) (tgt := 74) d_Mo_set_53 (by decide)) (fun c_7 => absurd c_7 (fun q => absurd ((nI_leI (a := mA T 3 j) (b := y) (by omega) (by omega)).mp q) (by omega))) (fun c_7 => ?_)
  refine px (fun _ => pm_dload (pc := 56) d_Mo_set_56 rfl) ?_
  refine px (fun _ => pm_ldc2d (pc := 58) d_Mo_set_58 tw_704) ?_
  refine px (fun _ => pm_dcmp (pc := 61) d_Mo_set_61) ?_
  refine pxb (fun _ => pm_if_lt (pc := 62) (tgt := 74) d_Mo_set_62 (by decide)) (fun c_8 => absurd c_8 (hv.1.1)) (fun c_8 => ?_)
  refine px (fun _ => pm_dload (pc := 65) d_Mo_set_65 rfl) ?_
  refine px (fun _ => pm_ldc2d (pc := 67) d_Mo_set_67 tw_705) ?_
  refine px (fun _ => pm_dcmp (pc := 70) d_Mo_set_70) ?_
  refine pxb (fun _ => pm_if_le (pc := 71) (tgt := 78) d_Mo_set_71 (by decide)) (fun c_9 => ?_) (fun c_9 => absurd (Int32.not_lt.mp hv.1.2) c_9)
  refine px (fun _ => pm_iconst (v := 0) (pc := 78) d_Mo_set_78 rfl) ?_
  refine px (fun _ => pm_istore (lv' := [(6, .int (0)), (0, .ref (95)), (1, .int (nI j)), (2, .int (nI x)), (3, .int (nI y)), (4, .double (v))]) (pc := 79) d_Mo_set_79 (by decide) rfl) ?_
  refine px (fun _ => pm_aload_n (pc := 81) d_Mo_set_81 rfl) ?_
  refine px (fun _ => pm_iload (pc := 82) d_Mo_set_82 rfl) ?_
  refine pxn (fun _ => pm_if_ne (pc := 84) (tgt := 107) d_Mo_set_84 (by decide)) (fun c_10 => absurd (by decide) c_10) (fun c_10 => ?_)
  refine px (fun _ => pm_aload_n (pc := 87) d_Mo_set_87 rfl) ?_
  refine px (fun _ => pm_getf fl_Mo_13 (pc := 88) d_Mo_set_88 H.1 rfl) ?_
  refine px (fun _ => pm_iload_n (pc := 91) d_Mo_set_91 rfl) ?_
  refine px (fun _ => pm_iald (j := j) (pc := 92) d_Mo_set_92 H.2.2.1 (rfl) (hj) (by decide)) ?_
  refine px (fun _ => pm_iconst (v := 1) (pc := 93) d_Mo_set_93 rfl) ?_
  refine pxn (fun _ => pm_icmp_ne (pc := 94) (tgt := 111) d_Mo_set_94 (by decide)) (fun c_11 => absurd (by rw [htt]; rfl) c_11) (fun c_11 => ?_)
  refine px (fun _ => pm_dload (pc := 97) d_Mo_set_97 rfl) ?_
  refine px (fun _ => pm_dload (pc := 99) d_Mo_set_99 rfl) ?_
  refine px (fun _ => pm_d2i (pc := 101) d_Mo_set_101) ?_
  refine px (fun _ => pm_i2d (pc := 102) d_Mo_set_102) ?_
  refine px (fun _ => pm_dcmp (pc := 103) d_Mo_set_103) ?_
  refine pxb (fun _ => pm_if_eq (pc := 104) (tgt := 111) d_Mo_set_104 (by decide)) (fun c_12 => ?_) (fun c_12 => absurd (hv.2.resolve_left (by decide)) c_12)
  refine px (fun _ => pm_iconst (v := 0) (pc := 111) d_Mo_set_111 rfl) ?_
  refine px (fun _ => pm_putfC (c' := pm_Ob 4 [.ref (96), .ref (97), .ref (98), .ref (99), .ref (100), .ref (101), .ref (102), .ref (103), .ref (104), .ref (105), .ref (106), .ref (107), .ref (108), .ref (109), .int (nI (mG T 0)), .int (nI (mG T 1)), .int (nI (mG T 2)), .int (nI (mG T 3)), .int (nI (mG T 4)), .int (0), .int (nI (mG T 6))]) fp_Mo_57 (pc := 112) d_Mo_set_112 H.1 (Nat.le_of_ble_eq_true rfl) rfl rfl rfl) ?_
  have H_13 : mH (msG T 5 0) (h.set (95) (pm_Ob 4 [.ref (96), .ref (97), .ref (98), .ref (99), .ref (100), .ref (101), .ref (102), .ref (103), .ref (104), .ref (105), .ref (106), .ref (107), .ref (108), .ref (109), .int (nI (mG T 0)), .int (nI (mG T 1)), .int (nI (mG T 2)), .int (nI (mG T 3)), .int (nI (mG T 4)), .int (0), .int (nI (mG T 6))])) := H.G5 (v := 0)
  refine px (fun _ => pm_aload_n (pc := 115) d_Mo_set_115 rfl) ?_
  refine px (fun _ => pm_getf fl_Mo_57 (pc := 116) d_Mo_set_116 H_13.1 rfl) ?_
  refine pxb (fun _ => pm_if_eq (pc := 119) (tgt := 123) d_Mo_set_119 (by decide)) (fun c_14 => ?_) (fun c_14 => absurd (rfl) c_14)
  refine px (fun _ => pm_aload_n (pc := 123) d_Mo_set_123 rfl) ?_
  refine px (fun _ => pm_getf fl_Mo_25 (pc := 124) d_Mo_set_124 H_13.1 rfl) ?_
  refine px (fun _ => pm_iload_n (pc := 127) d_Mo_set_127 rfl) ?_
  refine px (fun _ => pm_bipush (v := 16) (pc := 128) d_Mo_set_128 rfl) ?_
  refine px (fun _ => pm_imulN (a := j) (b := 16) (pc := 130) d_Mo_set_130) ?_
  refine px (fun _ => pm_iload_n (pc := 131) d_Mo_set_131 rfl) ?_
  refine px (fun _ => pm_iconst (v := 4) (pc := 132) d_Mo_set_132 rfl) ?_
  refine px (fun _ => pm_imulN (a := x) (b := 4) (pc := 133) d_Mo_set_133) ?_
  refine px (fun _ => pm_iaddN (a := (j * 16)) (b := (x * 4)) (pc := 134) d_Mo_set_134) ?_
  refine px (fun _ => pm_iload_n (pc := 135) d_Mo_set_135 rfl) ?_
  refine px (fun _ => pm_iaddN (a := ((j * 16) + (x * 4))) (b := y) (pc := 136) d_Mo_set_136) ?_
  refine px (fun _ => pm_aload_n (pc := 137) d_Mo_set_137 rfl) ?_
  refine px (fun _ => pm_getf fl_Mo_13 (pc := 138) d_Mo_set_138 H_13.1 rfl) ?_
  refine px (fun _ => pm_iload_n (pc := 141) d_Mo_set_141 rfl) ?_
  refine px (fun _ => pm_iald (j := j) (pc := 142) d_Mo_set_142 H_13.2.2.1 (rfl) (hj) (by decide)) ?_
  refine px (fun _ => pm_iconst (v := 1) (pc := 143) d_Mo_set_143 rfl) ?_
  refine pxn (fun _ => pm_icmp_ne (pc := 144) (tgt := 154) d_Mo_set_144 (by decide)) (fun c_15 => absurd (show nI (mA T 1 j) = 1 by rw [htt]; rfl) c_15) (fun c_15 => ?_)
  refine px (fun _ => pm_dload (pc := 147) d_Mo_set_147 rfl) ?_
  refine px (fun _ => pm_d2i (pc := 149) d_Mo_set_149) ?_
  refine px (fun _ => pm_i2d (pc := 150) d_Mo_set_150) ?_
  refine px (fun _ => pm_goto (tgt := 156) (pc := 151) d_Mo_set_151 (by decide)) ?_
  refine px (fun _ => pm_dast (j := j * 16 + x * 4 + y) (pc := 156) d_Mo_set_156 H_13.2.2.2.2.2.2.1 (rfl) (by omega) (by decide)) ?_
  have H_16 : mH (msV (msG T 5 0) (j * 16 + x * 4 + y) ((FP.i2d ((FP.d2i (v)))))) ((h.set (95) (pm_Ob 4 [.ref (96), .ref (97), .ref (98), .ref (99), .ref (100), .ref (101), .ref (102), .ref (103), .ref (104), .ref (105), .ref (106), .ref (107), .ref (108), .ref (109), .int (nI (mG T 0)), .int (nI (mG T 1)), .int (nI (mG T 2)), .int (nI (mG T 3)), .int (nI (mG T 4)), .int (0), .int (nI (mG T 6))])).set (101) (pm_Dd 320 (va_up (mV (msG T 5 0)) (j * 16 + x * 4 + y) ((FP.i2d ((FP.d2i (v)))))))) := H_13.V (j := j * 16 + x * 4 + y) (v := (FP.i2d ((FP.d2i (v)))))
  refine px (fun _ => pm_aload_n (pc := 157) d_Mo_set_157 rfl) ?_
  refine px (fun _ => pm_getf fl_Mo_7 (pc := 158) d_Mo_set_158 H_16.1 rfl) ?_
  refine px (fun _ => pm_iload_n (pc := 161) d_Mo_set_161 rfl) ?_
  refine px (fun _ => pm_iald (j := j) (pc := 162) d_Mo_set_162 H_16.2.1 (rfl) (hj) (by decide)) ?_
  refine px (fun _ => pm_iconst (v := 2) (pc := 163) d_Mo_set_163 rfl) ?_
  refine pxn (fun _ => pm_icmp_ne (pc := 164) (tgt := 174) d_Mo_set_164 (by decide)) (fun c_17 => absurd (show nI (mA T 0 j) = 2 by rw [hkk]; rfl) c_17) (fun c_17 => ?_)
  refine px (fun _ => pm_aload_n (pc := 167) d_Mo_set_167 rfl) ?_
  obtain ⟨⟨o18, h18⟩, ⟨e18, H18, F18⟩, en18⟩ := m_change (l := l) (G := G) (fi := fi) (T := msV (msG T 5 0) (j * 16 + x * 4 + y) ((FP.i2d ((FP.d2i (v)))))) hl H_16
  dsimp only at e18 H18 F18
  subst e18
  refine px (fun _ => k_Mo_set_168 (kc1 := 0) (ks1 := 0) (kc := 0) (ks := 0) (av := []) (st := []) H_16.1 (en18) rfl rfl (Nat.le_of_ble_eq_true rfl)) ?_
  refine px (fun _ => pm_goto (tgt := 209) (pc := 171) d_Mo_set_171 (by decide)) ?_
  exact pxr (pm_vret (pc := 209) d_Mo_set_209 rfl) ⟨rfl, H18, ((mFr.set _ _ (by omega))).tr (((mFr.set _ _ (by omega))).tr (F18))⟩
set_option maxHeartbeats 1000000 in
set_option maxRecDepth 20000 in
theorem m_set_b1 {l : Launch} {G : pm_G} {fi : Bool} {h : pm_H} {T : mS} {s i9 j9 : Int32} {v : UInt64} (hl : l.stackTraces = false) (H : mH T h) (hs : s < 0 ∨ 20 ≤ s) : pm_Cn l G fi fi 0 0 M_Mo_set [.ref (95), .int (s), .int (i9), .int (j9), .double (v)] h (m_P none (msG T 5 1) h) := by
  refine pm_Cn.of hl (by decide) (Nat.le_of_ble_eq_true rfl) ?_
  refine px (fun _ => pm_aload_n (pc := 0) d_Mo_set_0 rfl) ?_
  refine px (fun _ => pm_iload_n (pc := 1) d_Mo_set_1 rfl) ?_
  refine px (fun _ => k_Mo_set_2 (kc1 := 0) (ks1 := 0) (kc := 0) (ks := 0) (av := [.int (s)]) (st := []) H.1 (m_ns_out hl H hs) rfl rfl (Nat.le_of_ble_eq_true rfl)) ?_
  refine pxn (fun _ => pm_if_ne (pc := 5) (tgt := 74) d_Mo_set_5 (by decide)) (fun c_1 => ?_) (fun c_1 => absurd c_1 (by decide))
  refine px (fun _ => pm_iconst (v := 1) (pc := 74) d_Mo_set_74 rfl) ?_
  refine px (fun _ => pm_goto (tgt := 79) (pc := 75) d_Mo_set_75 (by decide)) ?_
  refine px (fun _ => pm_istore (lv' := [(6, .int (1)), (0, .ref (95)), (1, .int (s)), (2, .int (i9)), (3, .int (j9)), (4, .double (v))]) (pc := 79) d_Mo_set_79 (by decide) rfl) ?_
  refine px (fun _ => pm_aload_n (pc := 81) d_Mo_set_81 rfl) ?_
  refine px (fun _ => pm_iload (pc := 82) d_Mo_set_82 rfl) ?_
  refine pxn (fun _ => pm_if_ne (pc := 84) (tgt := 107) d_Mo_set_84 (by decide)) (fun c_2 => ?_) (fun c_2 => absurd c_2 (by decide))
  refine px (fun _ => pm_iconst (v := 1) (pc := 107) d_Mo_set_107 rfl) ?_
  refine px (fun _ => pm_goto (tgt := 112) (pc := 108) d_Mo_set_108 (by decide)) ?_
  refine px (fun _ => pm_putfC (c' := pm_Ob 4 [.ref (96), .ref (97), .ref (98), .ref (99), .ref (100), .ref (101), .ref (102), .ref (103), .ref (104), .ref (105), .ref (106), .ref (107), .ref (108), .ref (109), .int (nI (mG T 0)), .int (nI (mG T 1)), .int (nI (mG T 2)), .int (nI (mG T 3)), .int (nI (mG T 4)), .int (1), .int (nI (mG T 6))]) fp_Mo_57 (pc := 112) d_Mo_set_112 H.1 (Nat.le_of_ble_eq_true rfl) rfl rfl rfl) ?_
  have H_3 : mH (msG T 5 1) (h.set (95) (pm_Ob 4 [.ref (96), .ref (97), .ref (98), .ref (99), .ref (100), .ref (101), .ref (102), .ref (103), .ref (104), .ref (105), .ref (106), .ref (107), .ref (108), .ref (109), .int (nI (mG T 0)), .int (nI (mG T 1)), .int (nI (mG T 2)), .int (nI (mG T 3)), .int (nI (mG T 4)), .int (1), .int (nI (mG T 6))])) := H.G5 (v := 1)
  refine px (fun _ => pm_aload_n (pc := 115) d_Mo_set_115 rfl) ?_
  refine px (fun _ => pm_getf fl_Mo_57 (pc := 116) d_Mo_set_116 H_3.1 rfl) ?_
  refine pxb (fun _ => pm_if_eq (pc := 119) (tgt := 123) d_Mo_set_119 (by decide)) (fun c_4 => absurd c_4 (fun q => absurd (show nI 1 = 0 from q) (by decide))) (fun c_4 => ?_)
  exact pxr (pm_vret (pc := 122) d_Mo_set_122 rfl) ⟨rfl, H_3, (mFr.set _ _ (by omega))⟩
set_option maxHeartbeats 1000000 in
set_option maxRecDepth 20000 in
theorem m_set_k0 {l : Launch} {G : pm_G} {fi : Bool} {h : pm_H} {T : mS} {j : Nat} {i9 j9 : Int32} {v : UInt64} (hl : l.stackTraces = false) (H : mH T h) (hj : j < 20) (hkk : mA T 0 j = 0) : pm_Cn l G fi fi 0 0 M_Mo_set [.ref (95), .int (nI j), .int (i9), .int (j9), .double (v)] h (m_P none (msG T 5 1) h) := by
  refine pm_Cn.of hl (by decide) (Nat.le_of_ble_eq_true rfl) ?_
  refine px (fun _ => pm_aload_n (pc := 0) d_Mo_set_0 rfl) ?_
  refine px (fun _ => pm_iload_n (pc := 1) d_Mo_set_1 rfl) ?_
  refine px (fun _ => k_Mo_set_2 (kc1 := 0) (ks1 := 0) (kc := 0) (ks := 0) (av := [.int (nI j)]) (st := []) H.1 (m_ns_in hl H hj) rfl rfl (Nat.le_of_ble_eq_true rfl)) ?_
  refine pxn (fun _ => pm_if_ne (pc := 5) (tgt := 74) d_Mo_set_5 (by decide)) (fun c_1 => absurd (by decide) c_1) (fun c_1 => ?_)
  refine px (fun _ => pm_aload_n (pc := 8) d_Mo_set_8 rfl) ?_
  refine px (fun _ => pm_getf fl_Mo_7 (pc := 9) d_Mo_set_9 H.1 rfl) ?_
  refine px (fun _ => pm_iload_n (pc := 12) d_Mo_set_12 rfl) ?_
  refine px (fun _ => pm_iald (j := j) (pc := 13) d_Mo_set_13 H.2.1 (rfl) (hj) (by decide)) ?_
  refine px (fun _ => pm_iconst (v := 1) (pc := 14) d_Mo_set_14 rfl) ?_
  refine pxb (fun _ => pm_icmp_lt (pc := 15) (tgt := 74) d_Mo_set_15 (by decide)) (fun c_2 => ?_) (fun c_2 => absurd (by rw [hkk]; decide) c_2)
  refine px (fun _ => pm_iconst (v := 1) (pc := 74) d_Mo_set_74 rfl) ?_
  refine px (fun _ => pm_goto (tgt := 79) (pc := 75) d_Mo_set_75 (by decide)) ?_
  refine px (fun _ => pm_istore (lv' := [(6, .int (1)), (0, .ref (95)), (1, .int (nI j)), (2, .int (i9)), (3, .int (j9)), (4, .double (v))]) (pc := 79) d_Mo_set_79 (by decide) rfl) ?_
  refine px (fun _ => pm_aload_n (pc := 81) d_Mo_set_81 rfl) ?_
  refine px (fun _ => pm_iload (pc := 82) d_Mo_set_82 rfl) ?_
  refine pxn (fun _ => pm_if_ne (pc := 84) (tgt := 107) d_Mo_set_84 (by decide)) (fun c_3 => ?_) (fun c_3 => absurd c_3 (by decide))
  refine px (fun _ => pm_iconst (v := 1) (pc := 107) d_Mo_set_107 rfl) ?_
  refine px (fun _ => pm_goto (tgt := 112) (pc := 108) d_Mo_set_108 (by decide)) ?_
  refine px (fun _ => pm_putfC (c' := pm_Ob 4 [.ref (96), .ref (97), .ref (98), .ref (99), .ref (100), .ref (101), .ref (102), .ref (103), .ref (104), .ref (105), .ref (106), .ref (107), .ref (108), .ref (109), .int (nI (mG T 0)), .int (nI (mG T 1)), .int (nI (mG T 2)), .int (nI (mG T 3)), .int (nI (mG T 4)), .int (1), .int (nI (mG T 6))]) fp_Mo_57 (pc := 112) d_Mo_set_112 H.1 (Nat.le_of_ble_eq_true rfl) rfl rfl rfl) ?_
  have H_4 : mH (msG T 5 1) (h.set (95) (pm_Ob 4 [.ref (96), .ref (97), .ref (98), .ref (99), .ref (100), .ref (101), .ref (102), .ref (103), .ref (104), .ref (105), .ref (106), .ref (107), .ref (108), .ref (109), .int (nI (mG T 0)), .int (nI (mG T 1)), .int (nI (mG T 2)), .int (nI (mG T 3)), .int (nI (mG T 4)), .int (1), .int (nI (mG T 6))])) := H.G5 (v := 1)
  refine px (fun _ => pm_aload_n (pc := 115) d_Mo_set_115 rfl) ?_
  refine px (fun _ => pm_getf fl_Mo_57 (pc := 116) d_Mo_set_116 H_4.1 rfl) ?_
  refine pxb (fun _ => pm_if_eq (pc := 119) (tgt := 123) d_Mo_set_119 (by decide)) (fun c_5 => absurd c_5 (fun q => absurd (show nI 1 = 0 from q) (by decide))) (fun c_5 => ?_)
  exact pxr (pm_vret (pc := 122) d_Mo_set_122 rfl) ⟨rfl, H_4, (mFr.set _ _ (by omega))⟩
set_option maxHeartbeats 1000000 in
set_option maxRecDepth 20000 in
theorem m_set_k3 {l : Launch} {G : pm_G} {fi : Bool} {h : pm_H} {T : mS} {j : Nat} {i9 j9 : Int32} {v : UInt64} (hl : l.stackTraces = false) (H : mH T h) (hj : j < 20) (hkk : mA T 0 j = 3) : pm_Cn l G fi fi 0 0 M_Mo_set [.ref (95), .int (nI j), .int (i9), .int (j9), .double (v)] h (m_P none (msG T 5 1) h) := by
  refine pm_Cn.of hl (by decide) (Nat.le_of_ble_eq_true rfl) ?_
  refine px (fun _ => pm_aload_n (pc := 0) d_Mo_set_0 rfl) ?_
  refine px (fun _ => pm_iload_n (pc := 1) d_Mo_set_1 rfl) ?_
  refine px (fun _ => k_Mo_set_2 (kc1 := 0) (ks1 := 0) (kc := 0) (ks := 0) (av := [.int (nI j)]) (st := []) H.1 (m_ns_in hl H hj) rfl rfl (Nat.le_of_ble_eq_true rfl)) ?_
  refine pxn (fun _ => pm_if_ne (pc := 5) (tgt := 74) d_Mo_set_5 (by decide)) (fun c_1 => absurd (by decide) c_1) (fun c_1 => ?_)
  refine px (fun _ => pm_aload_n (pc := 8) d_Mo_set_8 rfl) ?_
  refine px (fun _ => pm_getf fl_Mo_7 (pc := 9) d_Mo_set_9 H.1 rfl) ?_
  refine px (fun _ => pm_iload_n (pc := 12) d_Mo_set_12 rfl) ?_
  refine px (fun _ => pm_iald (j := j) (pc := 13) d_Mo_set_13 H.2.1 (rfl) (hj) (by decide)) ?_
  refine px (fun _ => pm_iconst (v := 1) (pc := 14) d_Mo_set_14 rfl) ?_
  refine pxb (fun _ => pm_icmp_lt (pc := 15) (tgt := 74) d_Mo_set_15 (by decide)) (fun c_2 => absurd c_2 (by rw [hkk]; decide)) (fun c_2 => ?_)
  refine px (fun _ => pm_aload_n (pc := 18) d_Mo_set_18 rfl) ?_
  refine px (fun _ => pm_getf fl_Mo_7 (pc := 19) d_Mo_set_19 H.1 rfl) ?_
  refine px (fun _ => pm_iload_n (pc := 22) d_Mo_set_22 rfl) ?_
  refine px (fun _ => pm_iald (j := j) (pc := 23) d_Mo_set_23 H.2.1 (rfl) (hj) (by decide)) ?_
  refine px (fun _ => pm_iconst (v := 2) (pc := 24) d_Mo_set_24 rfl) ?_
  refine pxb (fun _ => pm_icmp_gt (pc := 25) (tgt := 74) d_Mo_set_25 (by decide)) (fun c_3 => ?_) (fun c_3 => absurd (by rw [hkk]; decide) c_3)
  refine px (fun _ => pm_iconst (v := 1) (pc := 74) d_Mo_set_74 rfl) ?_
  refine px (fun _ => pm_goto (tgt := 79) (pc := 75) d_Mo_set_75 (by decide)) ?_
  refine px (fun _ => pm_istore (lv' := [(6, .int (1)), (0, .ref (95)), (1, .int (nI j)), (2, .int (i9)), (3, .int (j9)), (4, .double (v))]) (pc := 79) d_Mo_set_79 (by decide) rfl) ?_
  refine px (fun _ => pm_aload_n (pc := 81) d_Mo_set_81 rfl) ?_
  refine px (fun _ => pm_iload (pc := 82) d_Mo_set_82 rfl) ?_
  refine pxn (fun _ => pm_if_ne (pc := 84) (tgt := 107) d_Mo_set_84 (by decide)) (fun c_4 => ?_) (fun c_4 => absurd c_4 (by decide))
  refine px (fun _ => pm_iconst (v := 1) (pc := 107) d_Mo_set_107 rfl) ?_
  refine px (fun _ => pm_goto (tgt := 112) (pc := 108) d_Mo_set_108 (by decide)) ?_
  refine px (fun _ => pm_putfC (c' := pm_Ob 4 [.ref (96), .ref (97), .ref (98), .ref (99), .ref (100), .ref (101), .ref (102), .ref (103), .ref (104), .ref (105), .ref (106), .ref (107), .ref (108), .ref (109), .int (nI (mG T 0)), .int (nI (mG T 1)), .int (nI (mG T 2)), .int (nI (mG T 3)), .int (nI (mG T 4)), .int (1), .int (nI (mG T 6))]) fp_Mo_57 (pc := 112) d_Mo_set_112 H.1 (Nat.le_of_ble_eq_true rfl) rfl rfl rfl) ?_
  have H_5 : mH (msG T 5 1) (h.set (95) (pm_Ob 4 [.ref (96), .ref (97), .ref (98), .ref (99), .ref (100), .ref (101), .ref (102), .ref (103), .ref (104), .ref (105), .ref (106), .ref (107), .ref (108), .ref (109), .int (nI (mG T 0)), .int (nI (mG T 1)), .int (nI (mG T 2)), .int (nI (mG T 3)), .int (nI (mG T 4)), .int (1), .int (nI (mG T 6))])) := H.G5 (v := 1)
  refine px (fun _ => pm_aload_n (pc := 115) d_Mo_set_115 rfl) ?_
  refine px (fun _ => pm_getf fl_Mo_57 (pc := 116) d_Mo_set_116 H_5.1 rfl) ?_
  refine pxb (fun _ => pm_if_eq (pc := 119) (tgt := 123) d_Mo_set_119 (by decide)) (fun c_6 => absurd c_6 (fun q => absurd (show nI 1 = 0 from q) (by decide))) (fun c_6 => ?_)
  exact pxr (pm_vret (pc := 122) d_Mo_set_122 rfl) ⟨rfl, H_5, (mFr.set _ _ (by omega))⟩
set_option maxHeartbeats 1000000 in
set_option maxRecDepth 20000 in
theorem m_set_f1 {l : Launch} {G : pm_G} {fi : Bool} {h : pm_H} {T : mS} {j : Nat} {i9 j9 : Int32} {v : UInt64} (hl : l.stackTraces = false) (H : mH T h) (hj : j < 20) (hkk : mA T 0 j = 1) (hb : ¬ ((¬ i9 < 0 ∧ ¬ j9 < 0 ∧ ¬ nI (mA T 2 j) ≤ i9 ∧ ¬ nI (mA T 3 j) ≤ j9) ∧ g_in v)) : pm_Cn l G fi fi 0 0 M_Mo_set [.ref (95), .int (nI j), .int (i9), .int (j9), .double (v)] h (m_P none (msG T 5 1) h) := by
  refine pm_Cn.of hl (by decide) (Nat.le_of_ble_eq_true rfl) ?_
  refine px (fun _ => pm_aload_n (pc := 0) d_Mo_set_0 rfl) ?_
  refine px (fun _ => pm_iload_n (pc := 1) d_Mo_set_1 rfl) ?_
  refine px (fun _ => k_Mo_set_2 (kc1 := 0) (ks1 := 0) (kc := 0) (ks := 0) (av := [.int (nI j)]) (st := []) H.1 (m_ns_in hl H hj) rfl rfl (Nat.le_of_ble_eq_true rfl)) ?_
  refine pxn (fun _ => pm_if_ne (pc := 5) (tgt := 74) d_Mo_set_5 (by decide)) (fun c_1 => absurd (by decide) c_1) (fun c_1 => ?_)
  refine px (fun _ => pm_aload_n (pc := 8) d_Mo_set_8 rfl) ?_
  refine px (fun _ => pm_getf fl_Mo_7 (pc := 9) d_Mo_set_9 H.1 rfl) ?_
  refine px (fun _ => pm_iload_n (pc := 12) d_Mo_set_12 rfl) ?_
  refine px (fun _ => pm_iald (j := j) (pc := 13) d_Mo_set_13 H.2.1 (rfl) (hj) (by decide)) ?_
  refine px (fun _ => pm_iconst (v := 1) (pc := 14) d_Mo_set_14 rfl) ?_
  refine pxb (fun _ => pm_icmp_lt (pc := 15) (tgt := 74) d_Mo_set_15 (by decide)) (fun c_2 => absurd c_2 (by rw [hkk]; decide)) (fun c_2 => ?_)
  refine px (fun _ => pm_aload_n (pc := 18) d_Mo_set_18 rfl) ?_
  refine px (fun _ => pm_getf fl_Mo_7 (pc := 19) d_Mo_set_19 H.1 rfl) ?_
  refine px (fun _ => pm_iload_n (pc := 22) d_Mo_set_22 rfl) ?_
  refine px (fun _ => pm_iald (j := j) (pc := 23) d_Mo_set_23 H.2.1 (rfl) (hj) (by decide)) ?_
  refine px (fun _ => pm_iconst (v := 2) (pc := 24) d_Mo_set_24 rfl) ?_
  refine pxb (fun _ => pm_icmp_gt (pc := 25) (tgt := 74) d_Mo_set_25 (by decide)) (fun c_3 => absurd c_3 (by rw [hkk]; decide)) (fun c_3 => ?_)
  refine px (fun _ => pm_iload_n (pc := 28) d_Mo_set_28 rfl) ?_
  refine pxb (fun _ => pm_if_lt (pc := 29) (tgt := 74) d_Mo_set_29 (by decide)) (fun c_4 => ?_) (fun c_4 => ?_)
  · refine px (fun _ => pm_iconst (v := 1) (pc := 74) d_Mo_set_74 rfl) ?_
    refine px (fun _ => pm_goto (tgt := 79) (pc := 75) d_Mo_set_75 (by decide)) ?_
    refine px (fun _ => pm_istore (lv' := [(6, .int (1)), (0, .ref (95)), (1, .int (nI j)), (2, .int (i9)), (3, .int (j9)), (4, .double (v))]) (pc := 79) d_Mo_set_79 (by decide) rfl) ?_
    refine px (fun _ => pm_aload_n (pc := 81) d_Mo_set_81 rfl) ?_
    refine px (fun _ => pm_iload (pc := 82) d_Mo_set_82 rfl) ?_
    refine pxn (fun _ => pm_if_ne (pc := 84) (tgt := 107) d_Mo_set_84 (by decide)) (fun c_5 => ?_) (fun c_5 => absurd c_5 (by decide))
    refine px (fun _ => pm_iconst (v := 1) (pc := 107) d_Mo_set_107 rfl) ?_
    refine px (fun _ => pm_goto (tgt := 112) (pc := 108) d_Mo_set_108 (by decide)) ?_
    refine px (fun _ => pm_putfC (c' := pm_Ob 4 [.ref (96), .ref (97), .ref (98), .ref (99), .ref (100), .ref (101), .ref (102), .ref (103), .ref (104), .ref (105), .ref (106), .ref (107), .ref (108), .ref (109), .int (nI (mG T 0)), .int (nI (mG T 1)), .int (nI (mG T 2)), .int (nI (mG T 3)), .int (nI (mG T 4)), .int (1), .int (nI (mG T 6))]) fp_Mo_57 (pc := 112) d_Mo_set_112 H.1 (Nat.le_of_ble_eq_true rfl) rfl rfl rfl) ?_
    have H_6 : mH (msG T 5 1) (h.set (95) (pm_Ob 4 [.ref (96), .ref (97), .ref (98), .ref (99), .ref (100), .ref (101), .ref (102), .ref (103), .ref (104), .ref (105), .ref (106), .ref (107), .ref (108), .ref (109), .int (nI (mG T 0)), .int (nI (mG T 1)), .int (nI (mG T 2)), .int (nI (mG T 3)), .int (nI (mG T 4)), .int (1), .int (nI (mG T 6))])) := H.G5 (v := 1)
    refine px (fun _ => pm_aload_n (pc := 115) d_Mo_set_115 rfl) ?_
    refine px (fun _ => pm_getf fl_Mo_57 (pc := 116) d_Mo_set_116 H_6.1 rfl) ?_
    refine pxb (fun _ => pm_if_eq (pc := 119) (tgt := 123) d_Mo_set_119 (by decide)) (fun c_7 => absurd c_7 (fun q => absurd (show nI 1 = 0 from q) (by decide))) (fun c_7 => ?_)
    exact pxr (pm_vret (pc := 122) d_Mo_set_122 rfl) ⟨rfl, H_6, (mFr.set _ _ (by omega))⟩
  · refine px (fun _ => pm_iload_n (pc := 32) d_Mo_set_32 rfl) ?_
    refine pxb (fun _ => pm_if_lt (pc := 33) (tgt := 74) d_Mo_set_33 (by decide)) (fun c_8 => ?_) (fun c_8 => ?_)
    · refine px (fun _ => pm_iconst (v := 1) (pc := 74) d_Mo_set_74 rfl) ?_
      refine px (fun _ => pm_goto (tgt := 79) (pc := 75) d_Mo_set_75 (by decide)) ?_
      refine px (fun _ => pm_istore (lv' := [(6, .int (1)), (0, .ref (95)), (1, .int (nI j)), (2, .int (i9)), (3, .int (j9)), (4, .double (v))]) (pc := 79) d_Mo_set_79 (by decide) rfl) ?_
      refine px (fun _ => pm_aload_n (pc := 81) d_Mo_set_81 rfl) ?_
      refine px (fun _ => pm_iload (pc := 82) d_Mo_set_82 rfl) ?_
      refine pxn (fun _ => pm_if_ne (pc := 84) (tgt := 107) d_Mo_set_84 (by decide)) (fun c_9 => ?_) (fun c_9 => absurd c_9 (by decide))
      refine px (fun _ => pm_iconst (v := 1) (pc := 107) d_Mo_set_107 rfl) ?_
      refine px (fun _ => pm_goto (tgt := 112) (pc := 108) d_Mo_set_108 (by decide)) ?_
      refine px (fun _ => pm_putfC (c' := pm_Ob 4 [.ref (96), .ref (97), .ref (98), .ref (99), .ref (100), .ref (101), .ref (102), .ref (103), .ref (104), .ref (105), .ref (106), .ref (107), .ref (108), .ref (109), .int (nI (mG T 0)), .int (nI (mG T 1)), .int (nI (mG T 2)), .int (nI (mG T 3)), .int (nI (mG T 4)), .int (1), .int (nI (mG T 6))]) fp_Mo_57 (pc := 112) d_Mo_set_112 H.1 (Nat.le_of_ble_eq_true rfl) rfl rfl rfl) ?_
      have H_10 : mH (msG T 5 1) (h.set (95) (pm_Ob 4 [.ref (96), .ref (97), .ref (98), .ref (99), .ref (100), .ref (101), .ref (102), .ref (103), .ref (104), .ref (105), .ref (106), .ref (107), .ref (108), .ref (109), .int (nI (mG T 0)), .int (nI (mG T 1)), .int (nI (mG T 2)), .int (nI (mG T 3)), .int (nI (mG T 4)), .int (1), .int (nI (mG T 6))])) := H.G5 (v := 1)
      refine px (fun _ => pm_aload_n (pc := 115) d_Mo_set_115 rfl) ?_
      refine px (fun _ => pm_getf fl_Mo_57 (pc := 116) d_Mo_set_116 H_10.1 rfl) ?_
      refine pxb (fun _ => pm_if_eq (pc := 119) (tgt := 123) d_Mo_set_119 (by decide)) (fun c_11 => absurd c_11 (fun q => absurd (show nI 1 = 0 from q) (by decide))) (fun c_11 => ?_)
      exact pxr (pm_vret (pc := 122) d_Mo_set_122 rfl) ⟨rfl, H_10, (mFr.set _ _ (by omega))⟩
    · refine px (fun _ => pm_iload_n (pc := 36) d_Mo_set_36 rfl) ?_
      refine px (fun _ => pm_aload_n (pc := 37) d_Mo_set_37 rfl) ?_
      refine px (fun _ => pm_getf fl_Mo_16 (pc := 38) d_Mo_set_38 H.1 rfl) ?_
      refine px (fun _ => pm_iload_n (pc := 41) d_Mo_set_41 rfl) ?_
      refine px (fun _ => pm_iald (j := j) (pc := 42) d_Mo_set_42 H.2.2.2.1 (rfl) (hj) (by decide)) ?_
      refine pxb (fun _ => pm_icmp_ge (pc := 43) (tgt := 74) d_Mo_set_43 (by decide)) (fun c_12 => ?_) (fun c_12 => ?_)
      · refine px (fun _ => pm_iconst (v := 1) (pc := 74) d_Mo_set_74 rfl) ?_
        refine px (fun _ => pm_goto (tgt := 79) (pc := 75) d_Mo_set_75 (by decide)) ?_
        refine px (fun _ => pm_istore (lv' := [(6, .int (1)), (0, .ref (95)), (1, .int (nI j)), (2, .int (i9)), (3, .int (j9)), (4, .double (v))]) (pc := 79) d_Mo_set_79 (by decide) rfl) ?_
        refine px (fun _ => pm_aload_n (pc := 81) d_Mo_set_81 rfl) ?_
        refine px (fun _ => pm_iload (pc := 82) d_Mo_set_82 rfl) ?_
        refine pxn (fun _ => pm_if_ne (pc := 84) (tgt := 107) d_Mo_set_84 (by decide)) (fun c_13 => ?_) (fun c_13 => absurd c_13 (by decide))
        refine px (fun _ => pm_iconst (v := 1) (pc := 107) d_Mo_set_107 rfl) ?_
        refine px (fun _ => pm_goto (tgt := 112) (pc := 108) d_Mo_set_108 (by decide)) ?_
        refine px (fun _ => pm_putfC (c' := pm_Ob 4 [.ref (96), .ref (97), .ref (98), .ref (99), .ref (100), .ref (101), .ref (102), .ref (103), .ref (104), .ref (105), .ref (106), .ref (107), .ref (108), .ref (109), .int (nI (mG T 0)), .int (nI (mG T 1)), .int (nI (mG T 2)), .int (nI (mG T 3)), .int (nI (mG T 4)), .int (1), .int (nI (mG T 6))]) fp_Mo_57 (pc := 112) d_Mo_set_112 H.1 (Nat.le_of_ble_eq_true rfl) rfl rfl rfl) ?_
        have H_14 : mH (msG T 5 1) (h.set (95) (pm_Ob 4 [.ref (96), .ref (97), .ref (98), .ref (99), .ref (100), .ref (101), .ref (102), .ref (103), .ref (104), .ref (105), .ref (106), .ref (107), .ref (108), .ref (109), .int (nI (mG T 0)), .int (nI (mG T 1)), .int (nI (mG T 2)), .int (nI (mG T 3)), .int (nI (mG T 4)), .int (1), .int (nI (mG T 6))])) := H.G5 (v := 1)
        refine px (fun _ => pm_aload_n (pc := 115) d_Mo_set_115 rfl) ?_
        refine px (fun _ => pm_getf fl_Mo_57 (pc := 116) d_Mo_set_116 H_14.1 rfl) ?_
        refine pxb (fun _ => pm_if_eq (pc := 119) (tgt := 123) d_Mo_set_119 (by decide)) (fun c_15 => absurd c_15 (fun q => absurd (show nI 1 = 0 from q) (by decide))) (fun c_15 => ?_)
        exact pxr (pm_vret (pc := 122) d_Mo_set_122 rfl) ⟨rfl, H_14, (mFr.set _ _ (by omega))⟩
      · refine px (fun _ => pm_iload_n (pc := 46) d_Mo_set_46 rfl) ?_
        refine px (fun _ => pm_aload_n (pc := 47) d_Mo_set_47 rfl) ?_
        refine px (fun _ => pm_getf fl_Mo_19 (pc := 48) d_Mo_set_48 H.1 rfl) ?_
        refine px (fun _ => pm_iload_n (pc := 51) d_Mo_set_51 rfl) ?_
        refine px (fun _ => pm_iald (j := j) (pc := 52) d_Mo_set_52 H.2.2.2.2.1 (rfl) (hj) (by decide)) ?_
        refine pxb (fun _ => pm_icmp_ge (pc := 53) (tgt := 74) d_Mo_set_53 (by decide)) (fun c_16 => ?_) (fun c_16 => ?_)
        · refine px (fun _ => pm_iconst (v := 1) (pc := 74) d_Mo_set_74 rfl) ?_
          refine px (fun _ => pm_goto (tgt := 79) (pc := 75) d_Mo_set_75 (by decide)) ?_
          refine px (fun _ => pm_istore (lv' := [(6, .int (1)), (0, .ref (95)), (1, .int (nI j)), (2, .int (i9)), (3, .int (j9)), (4, .double (v))]) (pc := 79) d_Mo_set_79 (by decide) rfl) ?_
          refine px (fun _ => pm_aload_n (pc := 81) d_Mo_set_81 rfl) ?_
          refine px (fun _ => pm_iload (pc := 82) d_Mo_set_82 rfl) ?_
          refine pxn (fun _ => pm_if_ne (pc := 84) (tgt := 107) d_Mo_set_84 (by decide)) (fun c_17 => ?_) (fun c_17 => absurd c_17 (by decide))
          refine px (fun _ => pm_iconst (v := 1) (pc := 107) d_Mo_set_107 rfl) ?_
          refine px (fun _ => pm_goto (tgt := 112) (pc := 108) d_Mo_set_108 (by decide)) ?_
          refine px (fun _ => pm_putfC (c' := pm_Ob 4 [.ref (96), .ref (97), .ref (98), .ref (99), .ref (100), .ref (101), .ref (102), .ref (103), .ref (104), .ref (105), .ref (106), .ref (107), .ref (108), .ref (109), .int (nI (mG T 0)), .int (nI (mG T 1)), .int (nI (mG T 2)), .int (nI (mG T 3)), .int (nI (mG T 4)), .int (1), .int (nI (mG T 6))]) fp_Mo_57 (pc := 112) d_Mo_set_112 H.1 (Nat.le_of_ble_eq_true rfl) rfl rfl rfl) ?_
          have H_18 : mH (msG T 5 1) (h.set (95) (pm_Ob 4 [.ref (96), .ref (97), .ref (98), .ref (99), .ref (100), .ref (101), .ref (102), .ref (103), .ref (104), .ref (105), .ref (106), .ref (107), .ref (108), .ref (109), .int (nI (mG T 0)), .int (nI (mG T 1)), .int (nI (mG T 2)), .int (nI (mG T 3)), .int (nI (mG T 4)), .int (1), .int (nI (mG T 6))])) := H.G5 (v := 1)
          refine px (fun _ => pm_aload_n (pc := 115) d_Mo_set_115 rfl) ?_
          refine px (fun _ => pm_getf fl_Mo_57 (pc := 116) d_Mo_set_116 H_18.1 rfl) ?_
          refine pxb (fun _ => pm_if_eq (pc := 119) (tgt := 123) d_Mo_set_119 (by decide)) (fun c_19 => absurd c_19 (fun q => absurd (show nI 1 = 0 from q) (by decide))) (fun c_19 => ?_)
          exact pxr (pm_vret (pc := 122) d_Mo_set_122 rfl) ⟨rfl, H_18, (mFr.set _ _ (by omega))⟩
        · refine px (fun _ => pm_dload (pc := 56) d_Mo_set_56 rfl) ?_
          refine px (fun _ => pm_ldc2d (pc := 58) d_Mo_set_58 tw_704) ?_
          refine px (fun _ => pm_dcmp (pc := 61) d_Mo_set_61) ?_
          refine pxb (fun _ => pm_if_lt (pc := 62) (tgt := 74) d_Mo_set_62 (by decide)) (fun c_20 => ?_) (fun c_20 => ?_)
          · refine px (fun _ => pm_iconst (v := 1) (pc := 74) d_Mo_set_74 rfl) ?_
            refine px (fun _ => pm_goto (tgt := 79) (pc := 75) d_Mo_set_75 (by decide)) ?_
            refine px (fun _ => pm_istore (lv' := [(6, .int (1)), (0, .ref (95)), (1, .int (nI j)), (2, .int (i9)), (3, .int (j9)), (4, .double (v))]) (pc := 79) d_Mo_set_79 (by decide) rfl) ?_
            refine px (fun _ => pm_aload_n (pc := 81) d_Mo_set_81 rfl) ?_
            refine px (fun _ => pm_iload (pc := 82) d_Mo_set_82 rfl) ?_
            refine pxn (fun _ => pm_if_ne (pc := 84) (tgt := 107) d_Mo_set_84 (by decide)) (fun c_21 => ?_) (fun c_21 => absurd c_21 (by decide))
            refine px (fun _ => pm_iconst (v := 1) (pc := 107) d_Mo_set_107 rfl) ?_
            refine px (fun _ => pm_goto (tgt := 112) (pc := 108) d_Mo_set_108 (by decide)) ?_
            refine px (fun _ => pm_putfC (c' := pm_Ob 4 [.ref (96), .ref (97), .ref (98), .ref (99), .ref (100), .ref (101), .ref (102), .ref (103), .ref (104), .ref (105), .ref (106), .ref (107), .ref (108), .ref (109), .int (nI (mG T 0)), .int (nI (mG T 1)), .int (nI (mG T 2)), .int (nI (mG T 3)), .int (nI (mG T 4)), .int (1), .int (nI (mG T 6))]) fp_Mo_57 (pc := 112) d_Mo_set_112 H.1 (Nat.le_of_ble_eq_true rfl) rfl rfl rfl) ?_
            have H_22 : mH (msG T 5 1) (h.set (95) (pm_Ob 4 [.ref (96), .ref (97), .ref (98), .ref (99), .ref (100), .ref (101), .ref (102), .ref (103), .ref (104), .ref (105), .ref (106), .ref (107), .ref (108), .ref (109), .int (nI (mG T 0)), .int (nI (mG T 1)), .int (nI (mG T 2)), .int (nI (mG T 3)), .int (nI (mG T 4)), .int (1), .int (nI (mG T 6))])) := H.G5 (v := 1)
            refine px (fun _ => pm_aload_n (pc := 115) d_Mo_set_115 rfl) ?_
            refine px (fun _ => pm_getf fl_Mo_57 (pc := 116) d_Mo_set_116 H_22.1 rfl) ?_
            refine pxb (fun _ => pm_if_eq (pc := 119) (tgt := 123) d_Mo_set_119 (by decide)) (fun c_23 => absurd c_23 (fun q => absurd (show nI 1 = 0 from q) (by decide))) (fun c_23 => ?_)
            exact pxr (pm_vret (pc := 122) d_Mo_set_122 rfl) ⟨rfl, H_22, (mFr.set _ _ (by omega))⟩
          · refine px (fun _ => pm_dload (pc := 65) d_Mo_set_65 rfl) ?_
            refine px (fun _ => pm_ldc2d (pc := 67) d_Mo_set_67 tw_705) ?_
            refine px (fun _ => pm_dcmp (pc := 70) d_Mo_set_70) ?_
            refine pxb (fun _ => pm_if_le (pc := 71) (tgt := 78) d_Mo_set_71 (by decide)) (fun c_24 => ?_) (fun c_24 => ?_)
            · refine px (fun _ => pm_iconst (v := 0) (pc := 78) d_Mo_set_78 rfl) ?_
              exact absurd ⟨⟨by assumption, by assumption, by assumption, by assumption⟩, by assumption, Int32.not_lt.mpr (by assumption)⟩ hb
            · refine px (fun _ => pm_iconst (v := 1) (pc := 74) d_Mo_set_74 rfl) ?_
              refine px (fun _ => pm_goto (tgt := 79) (pc := 75) d_Mo_set_75 (by decide)) ?_
              refine px (fun _ => pm_istore (lv' := [(6, .int (1)), (0, .ref (95)), (1, .int (nI j)), (2, .int (i9)), (3, .int (j9)), (4, .double (v))]) (pc := 79) d_Mo_set_79 (by decide) rfl) ?_
              refine px (fun _ => pm_aload_n (pc := 81) d_Mo_set_81 rfl) ?_
              refine px (fun _ => pm_iload (pc := 82) d_Mo_set_82 rfl) ?_
              refine pxn (fun _ => pm_if_ne (pc := 84) (tgt := 107) d_Mo_set_84 (by decide)) (fun c_25 => ?_) (fun c_25 => absurd c_25 (by decide))
              refine px (fun _ => pm_iconst (v := 1) (pc := 107) d_Mo_set_107 rfl) ?_
              refine px (fun _ => pm_goto (tgt := 112) (pc := 108) d_Mo_set_108 (by decide)) ?_
              refine px (fun _ => pm_putfC (c' := pm_Ob 4 [.ref (96), .ref (97), .ref (98), .ref (99), .ref (100), .ref (101), .ref (102), .ref (103), .ref (104), .ref (105), .ref (106), .ref (107), .ref (108), .ref (109), .int (nI (mG T 0)), .int (nI (mG T 1)), .int (nI (mG T 2)), .int (nI (mG T 3)), .int (nI (mG T 4)), .int (1), .int (nI (mG T 6))]) fp_Mo_57 (pc := 112) d_Mo_set_112 H.1 (Nat.le_of_ble_eq_true rfl) rfl rfl rfl) ?_
              have H_26 : mH (msG T 5 1) (h.set (95) (pm_Ob 4 [.ref (96), .ref (97), .ref (98), .ref (99), .ref (100), .ref (101), .ref (102), .ref (103), .ref (104), .ref (105), .ref (106), .ref (107), .ref (108), .ref (109), .int (nI (mG T 0)), .int (nI (mG T 1)), .int (nI (mG T 2)), .int (nI (mG T 3)), .int (nI (mG T 4)), .int (1), .int (nI (mG T 6))])) := H.G5 (v := 1)
              refine px (fun _ => pm_aload_n (pc := 115) d_Mo_set_115 rfl) ?_
              refine px (fun _ => pm_getf fl_Mo_57 (pc := 116) d_Mo_set_116 H_26.1 rfl) ?_
              refine pxb (fun _ => pm_if_eq (pc := 119) (tgt := 123) d_Mo_set_119 (by decide)) (fun c_27 => absurd c_27 (fun q => absurd (show nI 1 = 0 from q) (by decide))) (fun c_27 => ?_)
              exact pxr (pm_vret (pc := 122) d_Mo_set_122 rfl) ⟨rfl, H_26, (mFr.set _ _ (by omega))⟩
set_option maxHeartbeats 1000000 in
set_option maxRecDepth 20000 in
theorem m_set_w1 {l : Launch} {G : pm_G} {fi : Bool} {h : pm_H} {T : mS} {j : Nat} {i9 j9 : Int32} {v : UInt64} (hl : l.stackTraces = false) (H : mH T h) (hj : j < 20) (hkk : mA T 0 j = 1) (hi : ¬ i9 < 0 ∧ ¬ j9 < 0 ∧ ¬ nI (mA T 2 j) ≤ i9 ∧ ¬ nI (mA T 3 j) ≤ j9) (hv : g_in v) (ht : nI (mA T 1 j) = 1) (hw : ¬ g_wh v) : pm_Cn l G fi fi 0 0 M_Mo_set [.ref (95), .int (nI j), .int (i9), .int (j9), .double (v)] h (m_P none (msG T 5 1) h) := by
  refine pm_Cn.of hl (by decide) (Nat.le_of_ble_eq_true rfl) ?_
  refine px (fun _ => pm_aload_n (pc := 0) d_Mo_set_0 rfl) ?_
  refine px (fun _ => pm_iload_n (pc := 1) d_Mo_set_1 rfl) ?_
  refine px (fun _ => k_Mo_set_2 (kc1 := 0) (ks1 := 0) (kc := 0) (ks := 0) (av := [.int (nI j)]) (st := []) H.1 (m_ns_in hl H hj) rfl rfl (Nat.le_of_ble_eq_true rfl)) ?_
  refine pxn (fun _ => pm_if_ne (pc := 5) (tgt := 74) d_Mo_set_5 (by decide)) (fun c_1 => absurd (by decide) c_1) (fun c_1 => ?_)
  refine px (fun _ => pm_aload_n (pc := 8) d_Mo_set_8 rfl) ?_
  refine px (fun _ => pm_getf fl_Mo_7 (pc := 9) d_Mo_set_9 H.1 rfl) ?_
  refine px (fun _ => pm_iload_n (pc := 12) d_Mo_set_12 rfl) ?_
  refine px (fun _ => pm_iald (j := j) (pc := 13) d_Mo_set_13 H.2.1 (rfl) (hj) (by decide)) ?_
  refine px (fun _ => pm_iconst (v := 1) (pc := 14) d_Mo_set_14 rfl) ?_
  refine pxb (fun _ => pm_icmp_lt (pc := 15) (tgt := 74) d_Mo_set_15 (by decide)) (fun c_2 => absurd c_2 (by rw [hkk]; decide)) (fun c_2 => ?_)
  refine px (fun _ => pm_aload_n (pc := 18) d_Mo_set_18 rfl) ?_
  refine px (fun _ => pm_getf fl_Mo_7 (pc := 19) d_Mo_set_19 H.1 rfl) ?_
  refine px (fun _ => pm_iload_n (pc := 22) d_Mo_set_22 rfl) ?_
  refine px (fun _ => pm_iald (j := j) (pc := 23) d_Mo_set_23 H.2.1 (rfl) (hj) (by decide)) ?_
  refine px (fun _ => pm_iconst (v := 2) (pc := 24) d_Mo_set_24 rfl) ?_
  refine pxb (fun _ => pm_icmp_gt (pc := 25) (tgt := 74) d_Mo_set_25 (by decide)) (fun c_3 => absurd c_3 (by rw [hkk]; decide)) (fun c_3 => ?_)
  refine px (fun _ => pm_iload_n (pc := 28) d_Mo_set_28 rfl) ?_
  refine pxb (fun _ => pm_if_lt (pc := 29) (tgt := 74) d_Mo_set_29 (by decide)) (fun c_4 => absurd c_4 (hi.1)) (fun c_4 => ?_)
  refine px (fun _ => pm_iload_n (pc := 32) d_Mo_set_32 rfl) ?_
  refine pxb (fun _ => pm_if_lt (pc := 33) (tgt := 74) d_Mo_set_33 (by decide)) (fun c_5 => absurd c_5 (hi.2.1)) (fun c_5 => ?_)
  refine px (fun _ => pm_iload_n (pc := 36) d_Mo_set_36 rfl) ?_
  refine px (fun _ => pm_aload_n (pc := 37) d_Mo_set_37 rfl) ?_
  refine px (fun _ => pm_getf fl_Mo_16 (pc := 38) d_Mo_set_38 H.1 rfl) ?_
  refine px (fun _ => pm_iload_n (pc := 41) d_Mo_set_41 rfl) ?_
  refine px (fun _ => pm_iald (j := j) (pc := 42) d_Mo_set_42 H.2.2.2.1 (rfl) (hj) (by decide)) ?_
  refine pxb (fun _ => pm_icmp_ge (pc := 43) (tgt := 74) d_Mo_set_43 (by decide)) (fun c_6 => absurd c_6 (hi.2.2.1)) (fun c_6 => ?_)
  refine px (fun _ => pm_iload_n (pc := 46) d_Mo_set_46 rfl) ?_
  refine px (fun _ => pm_aload_n (pc := 47) d_Mo_set_47 rfl) ?_
  refine px (fun _ => pm_getf fl_Mo_19 (pc := 48) d_Mo_set_48 H.1 rfl) ?_
  refine px (fun _ => pm_iload_n (pc := 51) d_Mo_set_51 rfl) ?_
  refine px (fun _ => pm_iald (j := j) (pc := 52) d_Mo_set_52 H.2.2.2.2.1 (rfl) (hj) (by decide)) ?_
  refine pxb (fun _ => pm_icmp_ge (pc := 53) (tgt := 74) d_Mo_set_53 (by decide)) (fun c_7 => absurd c_7 (hi.2.2.2)) (fun c_7 => ?_)
  refine px (fun _ => pm_dload (pc := 56) d_Mo_set_56 rfl) ?_
  refine px (fun _ => pm_ldc2d (pc := 58) d_Mo_set_58 tw_704) ?_
  refine px (fun _ => pm_dcmp (pc := 61) d_Mo_set_61) ?_
  refine pxb (fun _ => pm_if_lt (pc := 62) (tgt := 74) d_Mo_set_62 (by decide)) (fun c_8 => absurd c_8 (hv.1)) (fun c_8 => ?_)
  refine px (fun _ => pm_dload (pc := 65) d_Mo_set_65 rfl) ?_
  refine px (fun _ => pm_ldc2d (pc := 67) d_Mo_set_67 tw_705) ?_
  refine px (fun _ => pm_dcmp (pc := 70) d_Mo_set_70) ?_
  refine pxb (fun _ => pm_if_le (pc := 71) (tgt := 78) d_Mo_set_71 (by decide)) (fun c_9 => ?_) (fun c_9 => absurd (Int32.not_lt.mp hv.2) c_9)
  refine px (fun _ => pm_iconst (v := 0) (pc := 78) d_Mo_set_78 rfl) ?_
  refine px (fun _ => pm_istore (lv' := [(6, .int (0)), (0, .ref (95)), (1, .int (nI j)), (2, .int (i9)), (3, .int (j9)), (4, .double (v))]) (pc := 79) d_Mo_set_79 (by decide) rfl) ?_
  refine px (fun _ => pm_aload_n (pc := 81) d_Mo_set_81 rfl) ?_
  refine px (fun _ => pm_iload (pc := 82) d_Mo_set_82 rfl) ?_
  refine pxn (fun _ => pm_if_ne (pc := 84) (tgt := 107) d_Mo_set_84 (by decide)) (fun c_10 => absurd (by decide) c_10) (fun c_10 => ?_)
  refine px (fun _ => pm_aload_n (pc := 87) d_Mo_set_87 rfl) ?_
  refine px (fun _ => pm_getf fl_Mo_13 (pc := 88) d_Mo_set_88 H.1 rfl) ?_
  refine px (fun _ => pm_iload_n (pc := 91) d_Mo_set_91 rfl) ?_
  refine px (fun _ => pm_iald (j := j) (pc := 92) d_Mo_set_92 H.2.2.1 (rfl) (hj) (by decide)) ?_
  refine px (fun _ => pm_iconst (v := 1) (pc := 93) d_Mo_set_93 rfl) ?_
  refine pxn (fun _ => pm_icmp_ne (pc := 94) (tgt := 111) d_Mo_set_94 (by decide)) (fun c_11 => absurd (ht) c_11) (fun c_11 => ?_)
  refine px (fun _ => pm_dload (pc := 97) d_Mo_set_97 rfl) ?_
  refine px (fun _ => pm_dload (pc := 99) d_Mo_set_99 rfl) ?_
  refine px (fun _ => pm_d2i (pc := 101) d_Mo_set_101) ?_
  refine px (fun _ => pm_i2d (pc := 102) d_Mo_set_102) ?_
  refine px (fun _ => pm_dcmp (pc := 103) d_Mo_set_103) ?_
  refine pxb (fun _ => pm_if_eq (pc := 104) (tgt := 111) d_Mo_set_104 (by decide)) (fun c_12 => absurd c_12 (hw)) (fun c_12 => ?_)
  refine px (fun _ => pm_iconst (v := 1) (pc := 107) d_Mo_set_107 rfl) ?_
  refine px (fun _ => pm_goto (tgt := 112) (pc := 108) d_Mo_set_108 (by decide)) ?_
  refine px (fun _ => pm_putfC (c' := pm_Ob 4 [.ref (96), .ref (97), .ref (98), .ref (99), .ref (100), .ref (101), .ref (102), .ref (103), .ref (104), .ref (105), .ref (106), .ref (107), .ref (108), .ref (109), .int (nI (mG T 0)), .int (nI (mG T 1)), .int (nI (mG T 2)), .int (nI (mG T 3)), .int (nI (mG T 4)), .int (1), .int (nI (mG T 6))]) fp_Mo_57 (pc := 112) d_Mo_set_112 H.1 (Nat.le_of_ble_eq_true rfl) rfl rfl rfl) ?_
  have H_13 : mH (msG T 5 1) (h.set (95) (pm_Ob 4 [.ref (96), .ref (97), .ref (98), .ref (99), .ref (100), .ref (101), .ref (102), .ref (103), .ref (104), .ref (105), .ref (106), .ref (107), .ref (108), .ref (109), .int (nI (mG T 0)), .int (nI (mG T 1)), .int (nI (mG T 2)), .int (nI (mG T 3)), .int (nI (mG T 4)), .int (1), .int (nI (mG T 6))])) := H.G5 (v := 1)
  refine px (fun _ => pm_aload_n (pc := 115) d_Mo_set_115 rfl) ?_
  refine px (fun _ => pm_getf fl_Mo_57 (pc := 116) d_Mo_set_116 H_13.1 rfl) ?_
  refine pxb (fun _ => pm_if_eq (pc := 119) (tgt := 123) d_Mo_set_119 (by decide)) (fun c_14 => absurd c_14 (fun q => absurd (show nI 1 = 0 from q) (by decide))) (fun c_14 => ?_)
  exact pxr (pm_vret (pc := 122) d_Mo_set_122 rfl) ⟨rfl, H_13, (mFr.set _ _ (by omega))⟩
set_option maxHeartbeats 1000000 in
set_option maxRecDepth 20000 in
theorem m_set_f2 {l : Launch} {G : pm_G} {fi : Bool} {h : pm_H} {T : mS} {j : Nat} {i9 j9 : Int32} {v : UInt64} (hl : l.stackTraces = false) (H : mH T h) (hj : j < 20) (hkk : mA T 0 j = 2) (hb : ¬ ((¬ i9 < 0 ∧ ¬ j9 < 0 ∧ ¬ nI (mA T 2 j) ≤ i9 ∧ ¬ nI (mA T 3 j) ≤ j9) ∧ g_in v)) : pm_Cn l G fi fi 0 0 M_Mo_set [.ref (95), .int (nI j), .int (i9), .int (j9), .double (v)] h (m_P none (msG T 5 1) h) := by
  refine pm_Cn.of hl (by decide) (Nat.le_of_ble_eq_true rfl) ?_
  refine px (fun _ => pm_aload_n (pc := 0) d_Mo_set_0 rfl) ?_
  refine px (fun _ => pm_iload_n (pc := 1) d_Mo_set_1 rfl) ?_
  refine px (fun _ => k_Mo_set_2 (kc1 := 0) (ks1 := 0) (kc := 0) (ks := 0) (av := [.int (nI j)]) (st := []) H.1 (m_ns_in hl H hj) rfl rfl (Nat.le_of_ble_eq_true rfl)) ?_
  refine pxn (fun _ => pm_if_ne (pc := 5) (tgt := 74) d_Mo_set_5 (by decide)) (fun c_1 => absurd (by decide) c_1) (fun c_1 => ?_)
  refine px (fun _ => pm_aload_n (pc := 8) d_Mo_set_8 rfl) ?_
  refine px (fun _ => pm_getf fl_Mo_7 (pc := 9) d_Mo_set_9 H.1 rfl) ?_
  refine px (fun _ => pm_iload_n (pc := 12) d_Mo_set_12 rfl) ?_
  refine px (fun _ => pm_iald (j := j) (pc := 13) d_Mo_set_13 H.2.1 (rfl) (hj) (by decide)) ?_
  refine px (fun _ => pm_iconst (v := 1) (pc := 14) d_Mo_set_14 rfl) ?_
  refine pxb (fun _ => pm_icmp_lt (pc := 15) (tgt := 74) d_Mo_set_15 (by decide)) (fun c_2 => absurd c_2 (by rw [hkk]; decide)) (fun c_2 => ?_)
  refine px (fun _ => pm_aload_n (pc := 18) d_Mo_set_18 rfl) ?_
  refine px (fun _ => pm_getf fl_Mo_7 (pc := 19) d_Mo_set_19 H.1 rfl) ?_
  refine px (fun _ => pm_iload_n (pc := 22) d_Mo_set_22 rfl) ?_
  refine px (fun _ => pm_iald (j := j) (pc := 23) d_Mo_set_23 H.2.1 (rfl) (hj) (by decide)) ?_
  refine px (fun _ => pm_iconst (v := 2) (pc := 24) d_Mo_set_24 rfl) ?_
  refine pxb (fun _ => pm_icmp_gt (pc := 25) (tgt := 74) d_Mo_set_25 (by decide)) (fun c_3 => absurd c_3 (by rw [hkk]; decide)) (fun c_3 => ?_)
  refine px (fun _ => pm_iload_n (pc := 28) d_Mo_set_28 rfl) ?_
  refine pxb (fun _ => pm_if_lt (pc := 29) (tgt := 74) d_Mo_set_29 (by decide)) (fun c_4 => ?_) (fun c_4 => ?_)
  · refine px (fun _ => pm_iconst (v := 1) (pc := 74) d_Mo_set_74 rfl) ?_
    refine px (fun _ => pm_goto (tgt := 79) (pc := 75) d_Mo_set_75 (by decide)) ?_
    refine px (fun _ => pm_istore (lv' := [(6, .int (1)), (0, .ref (95)), (1, .int (nI j)), (2, .int (i9)), (3, .int (j9)), (4, .double (v))]) (pc := 79) d_Mo_set_79 (by decide) rfl) ?_
    refine px (fun _ => pm_aload_n (pc := 81) d_Mo_set_81 rfl) ?_
    refine px (fun _ => pm_iload (pc := 82) d_Mo_set_82 rfl) ?_
    refine pxn (fun _ => pm_if_ne (pc := 84) (tgt := 107) d_Mo_set_84 (by decide)) (fun c_5 => ?_) (fun c_5 => absurd c_5 (by decide))
    refine px (fun _ => pm_iconst (v := 1) (pc := 107) d_Mo_set_107 rfl) ?_
    refine px (fun _ => pm_goto (tgt := 112) (pc := 108) d_Mo_set_108 (by decide)) ?_
    refine px (fun _ => pm_putfC (c' := pm_Ob 4 [.ref (96), .ref (97), .ref (98), .ref (99), .ref (100), .ref (101), .ref (102), .ref (103), .ref (104), .ref (105), .ref (106), .ref (107), .ref (108), .ref (109), .int (nI (mG T 0)), .int (nI (mG T 1)), .int (nI (mG T 2)), .int (nI (mG T 3)), .int (nI (mG T 4)), .int (1), .int (nI (mG T 6))]) fp_Mo_57 (pc := 112) d_Mo_set_112 H.1 (Nat.le_of_ble_eq_true rfl) rfl rfl rfl) ?_
    have H_6 : mH (msG T 5 1) (h.set (95) (pm_Ob 4 [.ref (96), .ref (97), .ref (98), .ref (99), .ref (100), .ref (101), .ref (102), .ref (103), .ref (104), .ref (105), .ref (106), .ref (107), .ref (108), .ref (109), .int (nI (mG T 0)), .int (nI (mG T 1)), .int (nI (mG T 2)), .int (nI (mG T 3)), .int (nI (mG T 4)), .int (1), .int (nI (mG T 6))])) := H.G5 (v := 1)
    refine px (fun _ => pm_aload_n (pc := 115) d_Mo_set_115 rfl) ?_
    refine px (fun _ => pm_getf fl_Mo_57 (pc := 116) d_Mo_set_116 H_6.1 rfl) ?_
    refine pxb (fun _ => pm_if_eq (pc := 119) (tgt := 123) d_Mo_set_119 (by decide)) (fun c_7 => absurd c_7 (fun q => absurd (show nI 1 = 0 from q) (by decide))) (fun c_7 => ?_)
    exact pxr (pm_vret (pc := 122) d_Mo_set_122 rfl) ⟨rfl, H_6, (mFr.set _ _ (by omega))⟩
  · refine px (fun _ => pm_iload_n (pc := 32) d_Mo_set_32 rfl) ?_
    refine pxb (fun _ => pm_if_lt (pc := 33) (tgt := 74) d_Mo_set_33 (by decide)) (fun c_8 => ?_) (fun c_8 => ?_)
    · refine px (fun _ => pm_iconst (v := 1) (pc := 74) d_Mo_set_74 rfl) ?_
      refine px (fun _ => pm_goto (tgt := 79) (pc := 75) d_Mo_set_75 (by decide)) ?_
      refine px (fun _ => pm_istore (lv' := [(6, .int (1)), (0, .ref (95)), (1, .int (nI j)), (2, .int (i9)), (3, .int (j9)), (4, .double (v))]) (pc := 79) d_Mo_set_79 (by decide) rfl) ?_
      refine px (fun _ => pm_aload_n (pc := 81) d_Mo_set_81 rfl) ?_
      refine px (fun _ => pm_iload (pc := 82) d_Mo_set_82 rfl) ?_
      refine pxn (fun _ => pm_if_ne (pc := 84) (tgt := 107) d_Mo_set_84 (by decide)) (fun c_9 => ?_) (fun c_9 => absurd c_9 (by decide))
      refine px (fun _ => pm_iconst (v := 1) (pc := 107) d_Mo_set_107 rfl) ?_
      refine px (fun _ => pm_goto (tgt := 112) (pc := 108) d_Mo_set_108 (by decide)) ?_
      refine px (fun _ => pm_putfC (c' := pm_Ob 4 [.ref (96), .ref (97), .ref (98), .ref (99), .ref (100), .ref (101), .ref (102), .ref (103), .ref (104), .ref (105), .ref (106), .ref (107), .ref (108), .ref (109), .int (nI (mG T 0)), .int (nI (mG T 1)), .int (nI (mG T 2)), .int (nI (mG T 3)), .int (nI (mG T 4)), .int (1), .int (nI (mG T 6))]) fp_Mo_57 (pc := 112) d_Mo_set_112 H.1 (Nat.le_of_ble_eq_true rfl) rfl rfl rfl) ?_
      have H_10 : mH (msG T 5 1) (h.set (95) (pm_Ob 4 [.ref (96), .ref (97), .ref (98), .ref (99), .ref (100), .ref (101), .ref (102), .ref (103), .ref (104), .ref (105), .ref (106), .ref (107), .ref (108), .ref (109), .int (nI (mG T 0)), .int (nI (mG T 1)), .int (nI (mG T 2)), .int (nI (mG T 3)), .int (nI (mG T 4)), .int (1), .int (nI (mG T 6))])) := H.G5 (v := 1)
      refine px (fun _ => pm_aload_n (pc := 115) d_Mo_set_115 rfl) ?_
      refine px (fun _ => pm_getf fl_Mo_57 (pc := 116) d_Mo_set_116 H_10.1 rfl) ?_
      refine pxb (fun _ => pm_if_eq (pc := 119) (tgt := 123) d_Mo_set_119 (by decide)) (fun c_11 => absurd c_11 (fun q => absurd (show nI 1 = 0 from q) (by decide))) (fun c_11 => ?_)
      exact pxr (pm_vret (pc := 122) d_Mo_set_122 rfl) ⟨rfl, H_10, (mFr.set _ _ (by omega))⟩
    · refine px (fun _ => pm_iload_n (pc := 36) d_Mo_set_36 rfl) ?_
      refine px (fun _ => pm_aload_n (pc := 37) d_Mo_set_37 rfl) ?_
      refine px (fun _ => pm_getf fl_Mo_16 (pc := 38) d_Mo_set_38 H.1 rfl) ?_
      refine px (fun _ => pm_iload_n (pc := 41) d_Mo_set_41 rfl) ?_
      refine px (fun _ => pm_iald (j := j) (pc := 42) d_Mo_set_42 H.2.2.2.1 (rfl) (hj) (by decide)) ?_
      refine pxb (fun _ => pm_icmp_ge (pc := 43) (tgt := 74) d_Mo_set_43 (by decide)) (fun c_12 => ?_) (fun c_12 => ?_)
      · refine px (fun _ => pm_iconst (v := 1) (pc := 74) d_Mo_set_74 rfl) ?_
        refine px (fun _ => pm_goto (tgt := 79) (pc := 75) d_Mo_set_75 (by decide)) ?_
        refine px (fun _ => pm_istore (lv' := [(6, .int (1)), (0, .ref (95)), (1, .int (nI j)), (2, .int (i9)), (3, .int (j9)), (4, .double (v))]) (pc := 79) d_Mo_set_79 (by decide) rfl) ?_
        refine px (fun _ => pm_aload_n (pc := 81) d_Mo_set_81 rfl) ?_
        refine px (fun _ => pm_iload (pc := 82) d_Mo_set_82 rfl) ?_
        refine pxn (fun _ => pm_if_ne (pc := 84) (tgt := 107) d_Mo_set_84 (by decide)) (fun c_13 => ?_) (fun c_13 => absurd c_13 (by decide))
        refine px (fun _ => pm_iconst (v := 1) (pc := 107) d_Mo_set_107 rfl) ?_
        refine px (fun _ => pm_goto (tgt := 112) (pc := 108) d_Mo_set_108 (by decide)) ?_
        refine px (fun _ => pm_putfC (c' := pm_Ob 4 [.ref (96), .ref (97), .ref (98), .ref (99), .ref (100), .ref (101), .ref (102), .ref (103), .ref (104), .ref (105), .ref (106), .ref (107), .ref (108), .ref (109), .int (nI (mG T 0)), .int (nI (mG T 1)), .int (nI (mG T 2)), .int (nI (mG T 3)), .int (nI (mG T 4)), .int (1), .int (nI (mG T 6))]) fp_Mo_57 (pc := 112) d_Mo_set_112 H.1 (Nat.le_of_ble_eq_true rfl) rfl rfl rfl) ?_
        have H_14 : mH (msG T 5 1) (h.set (95) (pm_Ob 4 [.ref (96), .ref (97), .ref (98), .ref (99), .ref (100), .ref (101), .ref (102), .ref (103), .ref (104), .ref (105), .ref (106), .ref (107), .ref (108), .ref (109), .int (nI (mG T 0)), .int (nI (mG T 1)), .int (nI (mG T 2)), .int (nI (mG T 3)), .int (nI (mG T 4)), .int (1), .int (nI (mG T 6))])) := H.G5 (v := 1)
        refine px (fun _ => pm_aload_n (pc := 115) d_Mo_set_115 rfl) ?_
        refine px (fun _ => pm_getf fl_Mo_57 (pc := 116) d_Mo_set_116 H_14.1 rfl) ?_
        refine pxb (fun _ => pm_if_eq (pc := 119) (tgt := 123) d_Mo_set_119 (by decide)) (fun c_15 => absurd c_15 (fun q => absurd (show nI 1 = 0 from q) (by decide))) (fun c_15 => ?_)
        exact pxr (pm_vret (pc := 122) d_Mo_set_122 rfl) ⟨rfl, H_14, (mFr.set _ _ (by omega))⟩
      · refine px (fun _ => pm_iload_n (pc := 46) d_Mo_set_46 rfl) ?_
        refine px (fun _ => pm_aload_n (pc := 47) d_Mo_set_47 rfl) ?_
        refine px (fun _ => pm_getf fl_Mo_19 (pc := 48) d_Mo_set_48 H.1 rfl) ?_
        refine px (fun _ => pm_iload_n (pc := 51) d_Mo_set_51 rfl) ?_
        refine px (fun _ => pm_iald (j := j) (pc := 52) d_Mo_set_52 H.2.2.2.2.1 (rfl) (hj) (by decide)) ?_
        refine pxb (fun _ => pm_icmp_ge (pc := 53) (tgt := 74) d_Mo_set_53 (by decide)) (fun c_16 => ?_) (fun c_16 => ?_)
        · refine px (fun _ => pm_iconst (v := 1) (pc := 74) d_Mo_set_74 rfl) ?_
          refine px (fun _ => pm_goto (tgt := 79) (pc := 75) d_Mo_set_75 (by decide)) ?_
          refine px (fun _ => pm_istore (lv' := [(6, .int (1)), (0, .ref (95)), (1, .int (nI j)), (2, .int (i9)), (3, .int (j9)), (4, .double (v))]) (pc := 79) d_Mo_set_79 (by decide) rfl) ?_
          refine px (fun _ => pm_aload_n (pc := 81) d_Mo_set_81 rfl) ?_
          refine px (fun _ => pm_iload (pc := 82) d_Mo_set_82 rfl) ?_
          refine pxn (fun _ => pm_if_ne (pc := 84) (tgt := 107) d_Mo_set_84 (by decide)) (fun c_17 => ?_) (fun c_17 => absurd c_17 (by decide))
          refine px (fun _ => pm_iconst (v := 1) (pc := 107) d_Mo_set_107 rfl) ?_
          refine px (fun _ => pm_goto (tgt := 112) (pc := 108) d_Mo_set_108 (by decide)) ?_
          refine px (fun _ => pm_putfC (c' := pm_Ob 4 [.ref (96), .ref (97), .ref (98), .ref (99), .ref (100), .ref (101), .ref (102), .ref (103), .ref (104), .ref (105), .ref (106), .ref (107), .ref (108), .ref (109), .int (nI (mG T 0)), .int (nI (mG T 1)), .int (nI (mG T 2)), .int (nI (mG T 3)), .int (nI (mG T 4)), .int (1), .int (nI (mG T 6))]) fp_Mo_57 (pc := 112) d_Mo_set_112 H.1 (Nat.le_of_ble_eq_true rfl) rfl rfl rfl) ?_
          have H_18 : mH (msG T 5 1) (h.set (95) (pm_Ob 4 [.ref (96), .ref (97), .ref (98), .ref (99), .ref (100), .ref (101), .ref (102), .ref (103), .ref (104), .ref (105), .ref (106), .ref (107), .ref (108), .ref (109), .int (nI (mG T 0)), .int (nI (mG T 1)), .int (nI (mG T 2)), .int (nI (mG T 3)), .int (nI (mG T 4)), .int (1), .int (nI (mG T 6))])) := H.G5 (v := 1)
          refine px (fun _ => pm_aload_n (pc := 115) d_Mo_set_115 rfl) ?_
          refine px (fun _ => pm_getf fl_Mo_57 (pc := 116) d_Mo_set_116 H_18.1 rfl) ?_
          refine pxb (fun _ => pm_if_eq (pc := 119) (tgt := 123) d_Mo_set_119 (by decide)) (fun c_19 => absurd c_19 (fun q => absurd (show nI 1 = 0 from q) (by decide))) (fun c_19 => ?_)
          exact pxr (pm_vret (pc := 122) d_Mo_set_122 rfl) ⟨rfl, H_18, (mFr.set _ _ (by omega))⟩
        · refine px (fun _ => pm_dload (pc := 56) d_Mo_set_56 rfl) ?_
          refine px (fun _ => pm_ldc2d (pc := 58) d_Mo_set_58 tw_704) ?_
          refine px (fun _ => pm_dcmp (pc := 61) d_Mo_set_61) ?_
          refine pxb (fun _ => pm_if_lt (pc := 62) (tgt := 74) d_Mo_set_62 (by decide)) (fun c_20 => ?_) (fun c_20 => ?_)
          · refine px (fun _ => pm_iconst (v := 1) (pc := 74) d_Mo_set_74 rfl) ?_
            refine px (fun _ => pm_goto (tgt := 79) (pc := 75) d_Mo_set_75 (by decide)) ?_
            refine px (fun _ => pm_istore (lv' := [(6, .int (1)), (0, .ref (95)), (1, .int (nI j)), (2, .int (i9)), (3, .int (j9)), (4, .double (v))]) (pc := 79) d_Mo_set_79 (by decide) rfl) ?_
            refine px (fun _ => pm_aload_n (pc := 81) d_Mo_set_81 rfl) ?_
            refine px (fun _ => pm_iload (pc := 82) d_Mo_set_82 rfl) ?_
            refine pxn (fun _ => pm_if_ne (pc := 84) (tgt := 107) d_Mo_set_84 (by decide)) (fun c_21 => ?_) (fun c_21 => absurd c_21 (by decide))
            refine px (fun _ => pm_iconst (v := 1) (pc := 107) d_Mo_set_107 rfl) ?_
            refine px (fun _ => pm_goto (tgt := 112) (pc := 108) d_Mo_set_108 (by decide)) ?_
            refine px (fun _ => pm_putfC (c' := pm_Ob 4 [.ref (96), .ref (97), .ref (98), .ref (99), .ref (100), .ref (101), .ref (102), .ref (103), .ref (104), .ref (105), .ref (106), .ref (107), .ref (108), .ref (109), .int (nI (mG T 0)), .int (nI (mG T 1)), .int (nI (mG T 2)), .int (nI (mG T 3)), .int (nI (mG T 4)), .int (1), .int (nI (mG T 6))]) fp_Mo_57 (pc := 112) d_Mo_set_112 H.1 (Nat.le_of_ble_eq_true rfl) rfl rfl rfl) ?_
            have H_22 : mH (msG T 5 1) (h.set (95) (pm_Ob 4 [.ref (96), .ref (97), .ref (98), .ref (99), .ref (100), .ref (101), .ref (102), .ref (103), .ref (104), .ref (105), .ref (106), .ref (107), .ref (108), .ref (109), .int (nI (mG T 0)), .int (nI (mG T 1)), .int (nI (mG T 2)), .int (nI (mG T 3)), .int (nI (mG T 4)), .int (1), .int (nI (mG T 6))])) := H.G5 (v := 1)
            refine px (fun _ => pm_aload_n (pc := 115) d_Mo_set_115 rfl) ?_
            refine px (fun _ => pm_getf fl_Mo_57 (pc := 116) d_Mo_set_116 H_22.1 rfl) ?_
            refine pxb (fun _ => pm_if_eq (pc := 119) (tgt := 123) d_Mo_set_119 (by decide)) (fun c_23 => absurd c_23 (fun q => absurd (show nI 1 = 0 from q) (by decide))) (fun c_23 => ?_)
            exact pxr (pm_vret (pc := 122) d_Mo_set_122 rfl) ⟨rfl, H_22, (mFr.set _ _ (by omega))⟩
          · refine px (fun _ => pm_dload (pc := 65) d_Mo_set_65 rfl) ?_
            refine px (fun _ => pm_ldc2d (pc := 67) d_Mo_set_67 tw_705) ?_
            refine px (fun _ => pm_dcmp (pc := 70) d_Mo_set_70) ?_
            refine pxb (fun _ => pm_if_le (pc := 71) (tgt := 78) d_Mo_set_71 (by decide)) (fun c_24 => ?_) (fun c_24 => ?_)
            · refine px (fun _ => pm_iconst (v := 0) (pc := 78) d_Mo_set_78 rfl) ?_
              exact absurd ⟨⟨by assumption, by assumption, by assumption, by assumption⟩, by assumption, Int32.not_lt.mpr (by assumption)⟩ hb
            · refine px (fun _ => pm_iconst (v := 1) (pc := 74) d_Mo_set_74 rfl) ?_
              refine px (fun _ => pm_goto (tgt := 79) (pc := 75) d_Mo_set_75 (by decide)) ?_
              refine px (fun _ => pm_istore (lv' := [(6, .int (1)), (0, .ref (95)), (1, .int (nI j)), (2, .int (i9)), (3, .int (j9)), (4, .double (v))]) (pc := 79) d_Mo_set_79 (by decide) rfl) ?_
              refine px (fun _ => pm_aload_n (pc := 81) d_Mo_set_81 rfl) ?_
              refine px (fun _ => pm_iload (pc := 82) d_Mo_set_82 rfl) ?_
              refine pxn (fun _ => pm_if_ne (pc := 84) (tgt := 107) d_Mo_set_84 (by decide)) (fun c_25 => ?_) (fun c_25 => absurd c_25 (by decide))
              refine px (fun _ => pm_iconst (v := 1) (pc := 107) d_Mo_set_107 rfl) ?_
              refine px (fun _ => pm_goto (tgt := 112) (pc := 108) d_Mo_set_108 (by decide)) ?_
              refine px (fun _ => pm_putfC (c' := pm_Ob 4 [.ref (96), .ref (97), .ref (98), .ref (99), .ref (100), .ref (101), .ref (102), .ref (103), .ref (104), .ref (105), .ref (106), .ref (107), .ref (108), .ref (109), .int (nI (mG T 0)), .int (nI (mG T 1)), .int (nI (mG T 2)), .int (nI (mG T 3)), .int (nI (mG T 4)), .int (1), .int (nI (mG T 6))]) fp_Mo_57 (pc := 112) d_Mo_set_112 H.1 (Nat.le_of_ble_eq_true rfl) rfl rfl rfl) ?_
              have H_26 : mH (msG T 5 1) (h.set (95) (pm_Ob 4 [.ref (96), .ref (97), .ref (98), .ref (99), .ref (100), .ref (101), .ref (102), .ref (103), .ref (104), .ref (105), .ref (106), .ref (107), .ref (108), .ref (109), .int (nI (mG T 0)), .int (nI (mG T 1)), .int (nI (mG T 2)), .int (nI (mG T 3)), .int (nI (mG T 4)), .int (1), .int (nI (mG T 6))])) := H.G5 (v := 1)
              refine px (fun _ => pm_aload_n (pc := 115) d_Mo_set_115 rfl) ?_
              refine px (fun _ => pm_getf fl_Mo_57 (pc := 116) d_Mo_set_116 H_26.1 rfl) ?_
              refine pxb (fun _ => pm_if_eq (pc := 119) (tgt := 123) d_Mo_set_119 (by decide)) (fun c_27 => absurd c_27 (fun q => absurd (show nI 1 = 0 from q) (by decide))) (fun c_27 => ?_)
              exact pxr (pm_vret (pc := 122) d_Mo_set_122 rfl) ⟨rfl, H_26, (mFr.set _ _ (by omega))⟩
set_option maxHeartbeats 1000000 in
set_option maxRecDepth 20000 in
theorem m_set_w2 {l : Launch} {G : pm_G} {fi : Bool} {h : pm_H} {T : mS} {j : Nat} {i9 j9 : Int32} {v : UInt64} (hl : l.stackTraces = false) (H : mH T h) (hj : j < 20) (hkk : mA T 0 j = 2) (hi : ¬ i9 < 0 ∧ ¬ j9 < 0 ∧ ¬ nI (mA T 2 j) ≤ i9 ∧ ¬ nI (mA T 3 j) ≤ j9) (hv : g_in v) (ht : nI (mA T 1 j) = 1) (hw : ¬ g_wh v) : pm_Cn l G fi fi 0 0 M_Mo_set [.ref (95), .int (nI j), .int (i9), .int (j9), .double (v)] h (m_P none (msG T 5 1) h) := by
  refine pm_Cn.of hl (by decide) (Nat.le_of_ble_eq_true rfl) ?_
  refine px (fun _ => pm_aload_n (pc := 0) d_Mo_set_0 rfl) ?_
  refine px (fun _ => pm_iload_n (pc := 1) d_Mo_set_1 rfl) ?_
  refine px (fun _ => k_Mo_set_2 (kc1 := 0) (ks1 := 0) (kc := 0) (ks := 0) (av := [.int (nI j)]) (st := []) H.1 (m_ns_in hl H hj) rfl rfl (Nat.le_of_ble_eq_true rfl)) ?_
  refine pxn (fun _ => pm_if_ne (pc := 5) (tgt := 74) d_Mo_set_5 (by decide)) (fun c_1 => absurd (by decide) c_1) (fun c_1 => ?_)
  refine px (fun _ => pm_aload_n (pc := 8) d_Mo_set_8 rfl) ?_
  refine px (fun _ => pm_getf fl_Mo_7 (pc := 9) d_Mo_set_9 H.1 rfl) ?_
  refine px (fun _ => pm_iload_n (pc := 12) d_Mo_set_12 rfl) ?_
  refine px (fun _ => pm_iald (j := j) (pc := 13) d_Mo_set_13 H.2.1 (rfl) (hj) (by decide)) ?_
  refine px (fun _ => pm_iconst (v := 1) (pc := 14) d_Mo_set_14 rfl) ?_
  refine pxb (fun _ => pm_icmp_lt (pc := 15) (tgt := 74) d_Mo_set_15 (by decide)) (fun c_2 => absurd c_2 (by rw [hkk]; decide)) (fun c_2 => ?_)
  refine px (fun _ => pm_aload_n (pc := 18) d_Mo_set_18 rfl) ?_
  refine px (fun _ => pm_getf fl_Mo_7 (pc := 19) d_Mo_set_19 H.1 rfl) ?_
  refine px (fun _ => pm_iload_n (pc := 22) d_Mo_set_22 rfl) ?_
  refine px (fun _ => pm_iald (j := j) (pc := 23) d_Mo_set_23 H.2.1 (rfl) (hj) (by decide)) ?_
  refine px (fun _ => pm_iconst (v := 2) (pc := 24) d_Mo_set_24 rfl) ?_
  refine pxb (fun _ => pm_icmp_gt (pc := 25) (tgt := 74) d_Mo_set_25 (by decide)) (fun c_3 => absurd c_3 (by rw [hkk]; decide)) (fun c_3 => ?_)
  refine px (fun _ => pm_iload_n (pc := 28) d_Mo_set_28 rfl) ?_
  refine pxb (fun _ => pm_if_lt (pc := 29) (tgt := 74) d_Mo_set_29 (by decide)) (fun c_4 => absurd c_4 (hi.1)) (fun c_4 => ?_)
  refine px (fun _ => pm_iload_n (pc := 32) d_Mo_set_32 rfl) ?_
  refine pxb (fun _ => pm_if_lt (pc := 33) (tgt := 74) d_Mo_set_33 (by decide)) (fun c_5 => absurd c_5 (hi.2.1)) (fun c_5 => ?_)
  refine px (fun _ => pm_iload_n (pc := 36) d_Mo_set_36 rfl) ?_
  refine px (fun _ => pm_aload_n (pc := 37) d_Mo_set_37 rfl) ?_
  refine px (fun _ => pm_getf fl_Mo_16 (pc := 38) d_Mo_set_38 H.1 rfl) ?_
  refine px (fun _ => pm_iload_n (pc := 41) d_Mo_set_41 rfl) ?_
  refine px (fun _ => pm_iald (j := j) (pc := 42) d_Mo_set_42 H.2.2.2.1 (rfl) (hj) (by decide)) ?_
  refine pxb (fun _ => pm_icmp_ge (pc := 43) (tgt := 74) d_Mo_set_43 (by decide)) (fun c_6 => absurd c_6 (hi.2.2.1)) (fun c_6 => ?_)
  refine px (fun _ => pm_iload_n (pc := 46) d_Mo_set_46 rfl) ?_
  refine px (fun _ => pm_aload_n (pc := 47) d_Mo_set_47 rfl) ?_
  refine px (fun _ => pm_getf fl_Mo_19 (pc := 48) d_Mo_set_48 H.1 rfl) ?_
  refine px (fun _ => pm_iload_n (pc := 51) d_Mo_set_51 rfl) ?_
  refine px (fun _ => pm_iald (j := j) (pc := 52) d_Mo_set_52 H.2.2.2.2.1 (rfl) (hj) (by decide)) ?_
  refine pxb (fun _ => pm_icmp_ge (pc := 53) (tgt := 74) d_Mo_set_53 (by decide)) (fun c_7 => absurd c_7 (hi.2.2.2)) (fun c_7 => ?_)
  refine px (fun _ => pm_dload (pc := 56) d_Mo_set_56 rfl) ?_
  refine px (fun _ => pm_ldc2d (pc := 58) d_Mo_set_58 tw_704) ?_
  refine px (fun _ => pm_dcmp (pc := 61) d_Mo_set_61) ?_
  refine pxb (fun _ => pm_if_lt (pc := 62) (tgt := 74) d_Mo_set_62 (by decide)) (fun c_8 => absurd c_8 (hv.1)) (fun c_8 => ?_)
  refine px (fun _ => pm_dload (pc := 65) d_Mo_set_65 rfl) ?_
  refine px (fun _ => pm_ldc2d (pc := 67) d_Mo_set_67 tw_705) ?_
  refine px (fun _ => pm_dcmp (pc := 70) d_Mo_set_70) ?_
  refine pxb (fun _ => pm_if_le (pc := 71) (tgt := 78) d_Mo_set_71 (by decide)) (fun c_9 => ?_) (fun c_9 => absurd (Int32.not_lt.mp hv.2) c_9)
  refine px (fun _ => pm_iconst (v := 0) (pc := 78) d_Mo_set_78 rfl) ?_
  refine px (fun _ => pm_istore (lv' := [(6, .int (0)), (0, .ref (95)), (1, .int (nI j)), (2, .int (i9)), (3, .int (j9)), (4, .double (v))]) (pc := 79) d_Mo_set_79 (by decide) rfl) ?_
  refine px (fun _ => pm_aload_n (pc := 81) d_Mo_set_81 rfl) ?_
  refine px (fun _ => pm_iload (pc := 82) d_Mo_set_82 rfl) ?_
  refine pxn (fun _ => pm_if_ne (pc := 84) (tgt := 107) d_Mo_set_84 (by decide)) (fun c_10 => absurd (by decide) c_10) (fun c_10 => ?_)
  refine px (fun _ => pm_aload_n (pc := 87) d_Mo_set_87 rfl) ?_
  refine px (fun _ => pm_getf fl_Mo_13 (pc := 88) d_Mo_set_88 H.1 rfl) ?_
  refine px (fun _ => pm_iload_n (pc := 91) d_Mo_set_91 rfl) ?_
  refine px (fun _ => pm_iald (j := j) (pc := 92) d_Mo_set_92 H.2.2.1 (rfl) (hj) (by decide)) ?_
  refine px (fun _ => pm_iconst (v := 1) (pc := 93) d_Mo_set_93 rfl) ?_
  refine pxn (fun _ => pm_icmp_ne (pc := 94) (tgt := 111) d_Mo_set_94 (by decide)) (fun c_11 => absurd (ht) c_11) (fun c_11 => ?_)
  refine px (fun _ => pm_dload (pc := 97) d_Mo_set_97 rfl) ?_
  refine px (fun _ => pm_dload (pc := 99) d_Mo_set_99 rfl) ?_
  refine px (fun _ => pm_d2i (pc := 101) d_Mo_set_101) ?_
  refine px (fun _ => pm_i2d (pc := 102) d_Mo_set_102) ?_
  refine px (fun _ => pm_dcmp (pc := 103) d_Mo_set_103) ?_
  refine pxb (fun _ => pm_if_eq (pc := 104) (tgt := 111) d_Mo_set_104 (by decide)) (fun c_12 => absurd c_12 (hw)) (fun c_12 => ?_)
  refine px (fun _ => pm_iconst (v := 1) (pc := 107) d_Mo_set_107 rfl) ?_
  refine px (fun _ => pm_goto (tgt := 112) (pc := 108) d_Mo_set_108 (by decide)) ?_
  refine px (fun _ => pm_putfC (c' := pm_Ob 4 [.ref (96), .ref (97), .ref (98), .ref (99), .ref (100), .ref (101), .ref (102), .ref (103), .ref (104), .ref (105), .ref (106), .ref (107), .ref (108), .ref (109), .int (nI (mG T 0)), .int (nI (mG T 1)), .int (nI (mG T 2)), .int (nI (mG T 3)), .int (nI (mG T 4)), .int (1), .int (nI (mG T 6))]) fp_Mo_57 (pc := 112) d_Mo_set_112 H.1 (Nat.le_of_ble_eq_true rfl) rfl rfl rfl) ?_
  have H_13 : mH (msG T 5 1) (h.set (95) (pm_Ob 4 [.ref (96), .ref (97), .ref (98), .ref (99), .ref (100), .ref (101), .ref (102), .ref (103), .ref (104), .ref (105), .ref (106), .ref (107), .ref (108), .ref (109), .int (nI (mG T 0)), .int (nI (mG T 1)), .int (nI (mG T 2)), .int (nI (mG T 3)), .int (nI (mG T 4)), .int (1), .int (nI (mG T 6))])) := H.G5 (v := 1)
  refine px (fun _ => pm_aload_n (pc := 115) d_Mo_set_115 rfl) ?_
  refine px (fun _ => pm_getf fl_Mo_57 (pc := 116) d_Mo_set_116 H_13.1 rfl) ?_
  refine pxb (fun _ => pm_if_eq (pc := 119) (tgt := 123) d_Mo_set_119 (by decide)) (fun c_14 => absurd c_14 (fun q => absurd (show nI 1 = 0 from q) (by decide))) (fun c_14 => ?_)
  exact pxr (pm_vret (pc := 122) d_Mo_set_122 rfl) ⟨rfl, H_13, (mFr.set _ _ (by omega))⟩
theorem m_set_bad {l : Launch} {G : pm_G} {fi : Bool} {h : pm_H} {T : mS} {j : Nat} {i9 j9 : Int32} {v : UInt64} (hl : l.stackTraces = false) (H : mH T h) (hj : j < 20) (hk3 : mA T 0 j ≤ 3) (hb : ¬ ((mA T 0 j = 1 ∨ mA T 0 j = 2) ∧ (¬ i9 < 0 ∧ ¬ nI (mA T 2 j) ≤ i9 ∧ ¬ j9 < 0 ∧ ¬ nI (mA T 3 j) ≤ j9) ∧ g_st (mA T 1 j) v)) (ht : (mA T 0 j = 1 ∨ mA T 0 j = 2) → mA T 1 j ≤ 1) : pm_Cn l G fi fi 0 0 M_Mo_set [.ref 95, .int (nI j), .int i9, .int j9, .double v] h (m_P none (msG T 5 1) h) := by
  have key : ∀ hk : (mA T 0 j = 1 ∨ mA T 0 j = 2), ¬ ((¬ i9 < 0 ∧ ¬ j9 < 0 ∧ ¬ nI (mA T 2 j) ≤ i9 ∧ ¬ nI (mA T 3 j) ≤ j9) ∧ g_in v) ∨ ((¬ i9 < 0 ∧ ¬ j9 < 0 ∧ ¬ nI (mA T 2 j) ≤ i9 ∧ ¬ nI (mA T 3 j) ≤ j9) ∧ g_in v ∧ nI (mA T 1 j) = 1 ∧ ¬ g_wh v) := by
    intro hk
    by_cases q : (¬ i9 < 0 ∧ ¬ j9 < 0 ∧ ¬ nI (mA T 2 j) ≤ i9 ∧ ¬ nI (mA T 3 j) ≤ j9) ∧ g_in v
    · refine Or.inr ⟨q.1, q.2, ?_⟩
      by_cases h0 : mA T 1 j = 0
      · exact absurd ⟨hk, ⟨q.1.1, q.1.2.2.1, q.1.2.1, q.1.2.2.2⟩, q.2, Or.inl h0⟩ hb
      · have h1 : mA T 1 j = 1 := by have := ht hk; omega
        exact ⟨by rw [h1]; rfl, fun r => hb ⟨hk, ⟨q.1.1, q.1.2.2.1, q.1.2.1, q.1.2.2.2⟩, q.2, Or.inr r⟩⟩
    · exact Or.inl q
  by_cases k0 : mA T 0 j = 0
  · exact m_set_k0 hl H hj k0
  · by_cases k3 : mA T 0 j = 3
    · exact m_set_k3 hl H hj k3
    · by_cases k1 : mA T 0 j = 1
      · rcases key (Or.inl k1) with q | ⟨q1, q2, q3, q4⟩
        · exact m_set_f1 hl H hj k1 q
        · exact m_set_w1 hl H hj k1 q1 q2 q3 q4
      · have k2 : mA T 0 j = 2 := by omega
        rcases key (Or.inr k2) with q | ⟨q1, q2, q3, q4⟩
        · exact m_set_f2 hl H hj k2 q
        · exact m_set_w2 hl H hj k2 q1 q2 q3 q4
set_option maxHeartbeats 1000000 in
set_option maxRecDepth 20000 in
theorem m_node_b1 {l : Launch} {G : pm_G} {fi : Bool} {h : pm_H} {T : mS} {op a b c out p q : Int32} (hl : l.stackTraces = false) (H : mH T h)  (hk : ¬ (¬ op < 0 ∧ ¬ 18 < op)) : pm_Cn l G fi fi 0 0 M_Mo_node [.ref (95), .int (op), .int (a), .int (b), .int (c), .int (out), .int (p), .int (q)] h (m_P (some (.int 0)) (msG T 5 1) h) := by
  refine pm_Cn.of hl (by decide) (Nat.le_of_ble_eq_true rfl) ?_
  refine px (fun _ => pm_aload_n (pc := 0) d_Mo_node_0 rfl) ?_
  refine px (fun _ => pm_iload_n (pc := 1) d_Mo_node_1 rfl) ?_
  refine px (fun _ => pm_iconst (v := 0) (pc := 2) d_Mo_node_2 rfl) ?_
  refine px (fun _ => pm_bipush (v := 18) (pc := 3) d_Mo_node_3 rfl) ?_
  refine px (fun _ => k_Mo_node_5 (kc1 := 0) (ks1 := 0) (kc := 0) (ks := 0) (av := [.int (op), .int (0), .int (18)]) (st := []) H.1 (m_out_out hl H hk) rfl rfl (Nat.le_of_ble_eq_true rfl)) ?_
  refine pxn (fun _ => pm_if_ne (pc := 8) (tgt := 54) d_Mo_node_8 (by decide)) (fun c_1 => ?_) (fun c_1 => absurd c_1 (by decide))
  refine px (fun _ => pm_iconst (v := 1) (pc := 54) d_Mo_node_54 rfl) ?_
  refine px (fun _ => pm_goto (tgt := 59) (pc := 55) d_Mo_node_55 (by decide)) ?_
  refine px (fun _ => pm_istore (lv' := [(8, .int (1)), (0, .ref (95)), (1, .int (op)), (2, .int (a)), (3, .int (b)), (4, .int (c)), (5, .int (out)), (6, .int (p)), (7, .int (q))]) (pc := 59) d_Mo_node_59 (by decide) rfl) ?_
  refine px (fun _ => pm_iload (pc := 61) d_Mo_node_61 rfl) ?_
  refine pxn (fun _ => pm_if_ne (pc := 63) (tgt := 135) d_Mo_node_63 (by decide)) (fun c_2 => ?_) (fun c_2 => absurd c_2 (by decide))
  refine px (fun _ => pm_aload_n (pc := 135) d_Mo_node_135 rfl) ?_
  refine px (fun _ => pm_iload (pc := 136) d_Mo_node_136 rfl) ?_
  refine pxb (fun _ => pm_if_eq (pc := 138) (tgt := 145) d_Mo_node_138 (by decide)) (fun c_3 => absurd c_3 (by decide)) (fun c_3 => ?_)
  refine px (fun _ => pm_iconst (v := 1) (pc := 141) d_Mo_node_141 rfl) ?_
  refine px (fun _ => pm_goto (tgt := 159) (pc := 142) d_Mo_node_142 (by decide)) ?_
  refine px (fun _ => pm_putfC (c' := pm_Ob 4 [.ref (96), .ref (97), .ref (98), .ref (99), .ref (100), .ref (101), .ref (102), .ref (103), .ref (104), .ref (105), .ref (106), .ref (107), .ref (108), .ref (109), .int (nI (mG T 0)), .int (nI (mG T 1)), .int (nI (mG T 2)), .int (nI (mG T 3)), .int (nI (mG T 4)), .int (1), .int (nI (mG T 6))]) fp_Mo_57 (pc := 159) d_Mo_node_159 H.1 (Nat.le_of_ble_eq_true rfl) rfl rfl rfl) ?_
  have H_4 : mH (msG T 5 1) (h.set (95) (pm_Ob 4 [.ref (96), .ref (97), .ref (98), .ref (99), .ref (100), .ref (101), .ref (102), .ref (103), .ref (104), .ref (105), .ref (106), .ref (107), .ref (108), .ref (109), .int (nI (mG T 0)), .int (nI (mG T 1)), .int (nI (mG T 2)), .int (nI (mG T 3)), .int (nI (mG T 4)), .int (1), .int (nI (mG T 6))])) := H.G5 (v := 1)
  refine px (fun _ => pm_aload_n (pc := 162) d_Mo_node_162 rfl) ?_
  refine px (fun _ => pm_getf fl_Mo_57 (pc := 163) d_Mo_node_163 H_4.1 rfl) ?_
  refine pxb (fun _ => pm_if_eq (pc := 166) (tgt := 171) d_Mo_node_166 (by decide)) (fun c_5 => absurd c_5 (fun q => absurd (show nI 1 = 0 from q) (by decide))) (fun c_5 => ?_)
  refine px (fun _ => pm_iconst (v := 0) (pc := 169) d_Mo_node_169 rfl) ?_
  exact pxr (pm_iret (pc := 170) d_Mo_node_170 rfl rfl) ⟨rfl, H_4, (mFr.set _ _ (by omega))⟩
set_option maxHeartbeats 1000000 in
set_option maxRecDepth 20000 in
theorem m_node_b2 {l : Launch} {G : pm_G} {fi : Bool} {h : pm_H} {T : mS} {k : Nat} {a b c out p q : Int32} (hl : l.stackTraces = false) (H : mH T h) (hk : k < 19) (hs : out < 0 ∨ 20 ≤ out) : pm_Cn l G fi fi 0 0 M_Mo_node [.ref (95), .int (nI k), .int (a), .int (b), .int (c), .int (out), .int (p), .int (q)] h (m_P (some (.int 0)) (msG T 5 1) h) := by
  refine pm_Cn.of hl (by decide) (Nat.le_of_ble_eq_true rfl) ?_
  have mk : m_ar k ≤ 3 := by unfold m_ar; (repeat' split) <;> omega
  refine px (fun _ => pm_aload_n (pc := 0) d_Mo_node_0 rfl) ?_
  refine px (fun _ => pm_iload_n (pc := 1) d_Mo_node_1 rfl) ?_
  refine px (fun _ => pm_iconst (v := 0) (pc := 2) d_Mo_node_2 rfl) ?_
  refine px (fun _ => pm_bipush (v := 18) (pc := 3) d_Mo_node_3 rfl) ?_
  refine px (fun _ => k_Mo_node_5 (kc1 := 0) (ks1 := 0) (kc := 0) (ks := 0) (av := [.int (nI k), .int (0), .int (18)]) (st := []) H.1 (m_out_in hl H (g_nin (n := k) (lo := 0) (hi := 18) (by omega) (by omega) (by omega)).1 (g_nin (n := k) (lo := 0) (hi := 18) (by omega) (by omega) (by omega)).2) rfl rfl (Nat.le_of_ble_eq_true rfl)) ?_
  refine pxn (fun _ => pm_if_ne (pc := 8) (tgt := 54) d_Mo_node_8 (by decide)) (fun c_1 => absurd (by decide) c_1) (fun c_1 => ?_)
  refine px (fun _ => pm_aload_n (pc := 11) d_Mo_node_11 rfl) ?_
  refine px (fun _ => pm_iload (pc := 12) d_Mo_node_12 rfl) ?_
  refine px (fun _ => k_Mo_node_14 (kc1 := 0) (ks1 := 0) (kc := 0) (ks := 0) (av := [.int (out)]) (st := []) H.1 (m_ns_out hl H hs) rfl rfl (Nat.le_of_ble_eq_true rfl)) ?_
  refine pxn (fun _ => pm_if_ne (pc := 17) (tgt := 54) d_Mo_node_17 (by decide)) (fun c_2 => ?_) (fun c_2 => absurd c_2 (by decide))
  refine px (fun _ => pm_iconst (v := 1) (pc := 54) d_Mo_node_54 rfl) ?_
  refine px (fun _ => pm_goto (tgt := 59) (pc := 55) d_Mo_node_55 (by decide)) ?_
  refine px (fun _ => pm_istore (lv' := [(8, .int (1)), (0, .ref (95)), (1, .int (nI k)), (2, .int (a)), (3, .int (b)), (4, .int (c)), (5, .int (out)), (6, .int (p)), (7, .int (q))]) (pc := 59) d_Mo_node_59 (by decide) rfl) ?_
  refine px (fun _ => pm_iload (pc := 61) d_Mo_node_61 rfl) ?_
  refine pxn (fun _ => pm_if_ne (pc := 63) (tgt := 135) d_Mo_node_63 (by decide)) (fun c_3 => ?_) (fun c_3 => absurd c_3 (by decide))
  refine px (fun _ => pm_aload_n (pc := 135) d_Mo_node_135 rfl) ?_
  refine px (fun _ => pm_iload (pc := 136) d_Mo_node_136 rfl) ?_
  refine pxb (fun _ => pm_if_eq (pc := 138) (tgt := 145) d_Mo_node_138 (by decide)) (fun c_4 => absurd c_4 (by decide)) (fun c_4 => ?_)
  refine px (fun _ => pm_iconst (v := 1) (pc := 141) d_Mo_node_141 rfl) ?_
  refine px (fun _ => pm_goto (tgt := 159) (pc := 142) d_Mo_node_142 (by decide)) ?_
  refine px (fun _ => pm_putfC (c' := pm_Ob 4 [.ref (96), .ref (97), .ref (98), .ref (99), .ref (100), .ref (101), .ref (102), .ref (103), .ref (104), .ref (105), .ref (106), .ref (107), .ref (108), .ref (109), .int (nI (mG T 0)), .int (nI (mG T 1)), .int (nI (mG T 2)), .int (nI (mG T 3)), .int (nI (mG T 4)), .int (1), .int (nI (mG T 6))]) fp_Mo_57 (pc := 159) d_Mo_node_159 H.1 (Nat.le_of_ble_eq_true rfl) rfl rfl rfl) ?_
  have H_5 : mH (msG T 5 1) (h.set (95) (pm_Ob 4 [.ref (96), .ref (97), .ref (98), .ref (99), .ref (100), .ref (101), .ref (102), .ref (103), .ref (104), .ref (105), .ref (106), .ref (107), .ref (108), .ref (109), .int (nI (mG T 0)), .int (nI (mG T 1)), .int (nI (mG T 2)), .int (nI (mG T 3)), .int (nI (mG T 4)), .int (1), .int (nI (mG T 6))])) := H.G5 (v := 1)
  refine px (fun _ => pm_aload_n (pc := 162) d_Mo_node_162 rfl) ?_
  refine px (fun _ => pm_getf fl_Mo_57 (pc := 163) d_Mo_node_163 H_5.1 rfl) ?_
  refine pxb (fun _ => pm_if_eq (pc := 166) (tgt := 171) d_Mo_node_166 (by decide)) (fun c_6 => absurd c_6 (fun q => absurd (show nI 1 = 0 from q) (by decide))) (fun c_6 => ?_)
  refine px (fun _ => pm_iconst (v := 0) (pc := 169) d_Mo_node_169 rfl) ?_
  exact pxr (pm_iret (pc := 170) d_Mo_node_170 rfl rfl) ⟨rfl, H_5, (mFr.set _ _ (by omega))⟩
set_option maxHeartbeats 1000000 in
set_option maxRecDepth 20000 in
theorem m_node_p {l : Launch} {G : pm_G} {fi : Bool} {h : pm_H} {T : mS} {k j : Nat} {a b c p q : Int32} (hl : l.stackTraces = false) (H : mH T h) (hk : k < 19) (hj : j < 20) (hp : ¬ (¬ p < -8 ∧ ¬ 8 < p)) : pm_Cn l G fi fi 0 0 M_Mo_node [.ref (95), .int (nI k), .int (a), .int (b), .int (c), .int (nI j), .int (p), .int (q)] h (m_P (some (.int 0)) (msG T 5 1) h) := by
  refine pm_Cn.of hl (by decide) (Nat.le_of_ble_eq_true rfl) ?_
  have mk : m_ar k ≤ 3 := by unfold m_ar; (repeat' split) <;> omega
  refine px (fun _ => pm_aload_n (pc := 0) d_Mo_node_0 rfl) ?_
  refine px (fun _ => pm_iload_n (pc := 1) d_Mo_node_1 rfl) ?_
  refine px (fun _ => pm_iconst (v := 0) (pc := 2) d_Mo_node_2 rfl) ?_
  refine px (fun _ => pm_bipush (v := 18) (pc := 3) d_Mo_node_3 rfl) ?_
  refine px (fun _ => k_Mo_node_5 (kc1 := 0) (ks1 := 0) (kc := 0) (ks := 0) (av := [.int (nI k), .int (0), .int (18)]) (st := []) H.1 (m_out_in hl H (g_nin (n := k) (lo := 0) (hi := 18) (by omega) (by omega) (by omega)).1 (g_nin (n := k) (lo := 0) (hi := 18) (by omega) (by omega) (by omega)).2) rfl rfl (Nat.le_of_ble_eq_true rfl)) ?_
  refine pxn (fun _ => pm_if_ne (pc := 8) (tgt := 54) d_Mo_node_8 (by decide)) (fun c_1 => absurd (by decide) c_1) (fun c_1 => ?_)
  refine px (fun _ => pm_aload_n (pc := 11) d_Mo_node_11 rfl) ?_
  refine px (fun _ => pm_iload (pc := 12) d_Mo_node_12 rfl) ?_
  refine px (fun _ => k_Mo_node_14 (kc1 := 0) (ks1 := 0) (kc := 0) (ks := 0) (av := [.int (nI j)]) (st := []) H.1 (m_ns_in hl H hj) rfl rfl (Nat.le_of_ble_eq_true rfl)) ?_
  refine pxn (fun _ => pm_if_ne (pc := 17) (tgt := 54) d_Mo_node_17 (by decide)) (fun c_2 => absurd (by decide) c_2) (fun c_2 => ?_)
  refine px (fun _ => pm_aload_n (pc := 20) d_Mo_node_20 rfl) ?_
  refine px (fun _ => pm_iload (pc := 21) d_Mo_node_21 rfl) ?_
  refine px (fun _ => pm_bipush (v := -8) (pc := 23) d_Mo_node_23 rfl) ?_
  refine px (fun _ => pm_bipush (v := 8) (pc := 25) d_Mo_node_25 rfl) ?_
  refine px (fun _ => k_Mo_node_27 (kc1 := 0) (ks1 := 0) (kc := 0) (ks := 0) (av := [.int (p), .int (-8), .int (8)]) (st := []) H.1 (m_out_out hl H hp) rfl rfl (Nat.le_of_ble_eq_true rfl)) ?_
  refine pxn (fun _ => pm_if_ne (pc := 30) (tgt := 54) d_Mo_node_30 (by decide)) (fun c_3 => ?_) (fun c_3 => absurd c_3 (by decide))
  refine px (fun _ => pm_iconst (v := 1) (pc := 54) d_Mo_node_54 rfl) ?_
  refine px (fun _ => pm_goto (tgt := 59) (pc := 55) d_Mo_node_55 (by decide)) ?_
  refine px (fun _ => pm_istore (lv' := [(8, .int (1)), (0, .ref (95)), (1, .int (nI k)), (2, .int (a)), (3, .int (b)), (4, .int (c)), (5, .int (nI j)), (6, .int (p)), (7, .int (q))]) (pc := 59) d_Mo_node_59 (by decide) rfl) ?_
  refine px (fun _ => pm_iload (pc := 61) d_Mo_node_61 rfl) ?_
  refine pxn (fun _ => pm_if_ne (pc := 63) (tgt := 135) d_Mo_node_63 (by decide)) (fun c_4 => ?_) (fun c_4 => absurd c_4 (by decide))
  refine px (fun _ => pm_aload_n (pc := 135) d_Mo_node_135 rfl) ?_
  refine px (fun _ => pm_iload (pc := 136) d_Mo_node_136 rfl) ?_
  refine pxb (fun _ => pm_if_eq (pc := 138) (tgt := 145) d_Mo_node_138 (by decide)) (fun c_5 => absurd c_5 (by decide)) (fun c_5 => ?_)
  refine px (fun _ => pm_iconst (v := 1) (pc := 141) d_Mo_node_141 rfl) ?_
  refine px (fun _ => pm_goto (tgt := 159) (pc := 142) d_Mo_node_142 (by decide)) ?_
  refine px (fun _ => pm_putfC (c' := pm_Ob 4 [.ref (96), .ref (97), .ref (98), .ref (99), .ref (100), .ref (101), .ref (102), .ref (103), .ref (104), .ref (105), .ref (106), .ref (107), .ref (108), .ref (109), .int (nI (mG T 0)), .int (nI (mG T 1)), .int (nI (mG T 2)), .int (nI (mG T 3)), .int (nI (mG T 4)), .int (1), .int (nI (mG T 6))]) fp_Mo_57 (pc := 159) d_Mo_node_159 H.1 (Nat.le_of_ble_eq_true rfl) rfl rfl rfl) ?_
  have H_6 : mH (msG T 5 1) (h.set (95) (pm_Ob 4 [.ref (96), .ref (97), .ref (98), .ref (99), .ref (100), .ref (101), .ref (102), .ref (103), .ref (104), .ref (105), .ref (106), .ref (107), .ref (108), .ref (109), .int (nI (mG T 0)), .int (nI (mG T 1)), .int (nI (mG T 2)), .int (nI (mG T 3)), .int (nI (mG T 4)), .int (1), .int (nI (mG T 6))])) := H.G5 (v := 1)
  refine px (fun _ => pm_aload_n (pc := 162) d_Mo_node_162 rfl) ?_
  refine px (fun _ => pm_getf fl_Mo_57 (pc := 163) d_Mo_node_163 H_6.1 rfl) ?_
  refine pxb (fun _ => pm_if_eq (pc := 166) (tgt := 171) d_Mo_node_166 (by decide)) (fun c_7 => absurd c_7 (fun q => absurd (show nI 1 = 0 from q) (by decide))) (fun c_7 => ?_)
  refine px (fun _ => pm_iconst (v := 0) (pc := 169) d_Mo_node_169 rfl) ?_
  exact pxr (pm_iret (pc := 170) d_Mo_node_170 rfl rfl) ⟨rfl, H_6, (mFr.set _ _ (by omega))⟩
set_option maxHeartbeats 1000000 in
set_option maxRecDepth 20000 in
theorem m_node_q {l : Launch} {G : pm_G} {fi : Bool} {h : pm_H} {T : mS} {k j : Nat} {a b c p q : Int32} (hl : l.stackTraces = false) (H : mH T h) (hk : k < 19) (hj : j < 20) (hp : ¬ p < -8 ∧ ¬ 8 < p) (hq : ¬ (¬ q < -8 ∧ ¬ 8 < q)) : pm_Cn l G fi fi 0 0 M_Mo_node [.ref (95), .int (nI k), .int (a), .int (b), .int (c), .int (nI j), .int (p), .int (q)] h (m_P (some (.int 0)) (msG T 5 1) h) := by
  refine pm_Cn.of hl (by decide) (Nat.le_of_ble_eq_true rfl) ?_
  have mk : m_ar k ≤ 3 := by unfold m_ar; (repeat' split) <;> omega
  refine px (fun _ => pm_aload_n (pc := 0) d_Mo_node_0 rfl) ?_
  refine px (fun _ => pm_iload_n (pc := 1) d_Mo_node_1 rfl) ?_
  refine px (fun _ => pm_iconst (v := 0) (pc := 2) d_Mo_node_2 rfl) ?_
  refine px (fun _ => pm_bipush (v := 18) (pc := 3) d_Mo_node_3 rfl) ?_
  refine px (fun _ => k_Mo_node_5 (kc1 := 0) (ks1 := 0) (kc := 0) (ks := 0) (av := [.int (nI k), .int (0), .int (18)]) (st := []) H.1 (m_out_in hl H (g_nin (n := k) (lo := 0) (hi := 18) (by omega) (by omega) (by omega)).1 (g_nin (n := k) (lo := 0) (hi := 18) (by omega) (by omega) (by omega)).2) rfl rfl (Nat.le_of_ble_eq_true rfl)) ?_
  refine pxn (fun _ => pm_if_ne (pc := 8) (tgt := 54) d_Mo_node_8 (by decide)) (fun c_1 => absurd (by decide) c_1) (fun c_1 => ?_)
  refine px (fun _ => pm_aload_n (pc := 11) d_Mo_node_11 rfl) ?_
  refine px (fun _ => pm_iload (pc := 12) d_Mo_node_12 rfl) ?_
  refine px (fun _ => k_Mo_node_14 (kc1 := 0) (ks1 := 0) (kc := 0) (ks := 0) (av := [.int (nI j)]) (st := []) H.1 (m_ns_in hl H hj) rfl rfl (Nat.le_of_ble_eq_true rfl)) ?_
  refine pxn (fun _ => pm_if_ne (pc := 17) (tgt := 54) d_Mo_node_17 (by decide)) (fun c_2 => absurd (by decide) c_2) (fun c_2 => ?_)
  refine px (fun _ => pm_aload_n (pc := 20) d_Mo_node_20 rfl) ?_
  refine px (fun _ => pm_iload (pc := 21) d_Mo_node_21 rfl) ?_
  refine px (fun _ => pm_bipush (v := -8) (pc := 23) d_Mo_node_23 rfl) ?_
  refine px (fun _ => pm_bipush (v := 8) (pc := 25) d_Mo_node_25 rfl) ?_
  refine px (fun _ => k_Mo_node_27 (kc1 := 0) (ks1 := 0) (kc := 0) (ks := 0) (av := [.int (p), .int (-8), .int (8)]) (st := []) H.1 (m_out_in hl H hp.1 hp.2) rfl rfl (Nat.le_of_ble_eq_true rfl)) ?_
  refine pxn (fun _ => pm_if_ne (pc := 30) (tgt := 54) d_Mo_node_30 (by decide)) (fun c_3 => absurd (by decide) c_3) (fun c_3 => ?_)
  refine px (fun _ => pm_aload_n (pc := 33) d_Mo_node_33 rfl) ?_
  refine px (fun _ => pm_iload (pc := 34) d_Mo_node_34 rfl) ?_
  refine px (fun _ => pm_bipush (v := -8) (pc := 36) d_Mo_node_36 rfl) ?_
  refine px (fun _ => pm_bipush (v := 8) (pc := 38) d_Mo_node_38 rfl) ?_
  refine px (fun _ => k_Mo_node_40 (kc1 := 0) (ks1 := 0) (kc := 0) (ks := 0) (av := [.int (q), .int (-8), .int (8)]) (st := []) H.1 (m_out_out hl H hq) rfl rfl (Nat.le_of_ble_eq_true rfl)) ?_
  refine pxn (fun _ => pm_if_ne (pc := 43) (tgt := 54) d_Mo_node_43 (by decide)) (fun c_4 => ?_) (fun c_4 => absurd c_4 (by decide))
  refine px (fun _ => pm_iconst (v := 1) (pc := 54) d_Mo_node_54 rfl) ?_
  refine px (fun _ => pm_goto (tgt := 59) (pc := 55) d_Mo_node_55 (by decide)) ?_
  refine px (fun _ => pm_istore (lv' := [(8, .int (1)), (0, .ref (95)), (1, .int (nI k)), (2, .int (a)), (3, .int (b)), (4, .int (c)), (5, .int (nI j)), (6, .int (p)), (7, .int (q))]) (pc := 59) d_Mo_node_59 (by decide) rfl) ?_
  refine px (fun _ => pm_iload (pc := 61) d_Mo_node_61 rfl) ?_
  refine pxn (fun _ => pm_if_ne (pc := 63) (tgt := 135) d_Mo_node_63 (by decide)) (fun c_5 => ?_) (fun c_5 => absurd c_5 (by decide))
  refine px (fun _ => pm_aload_n (pc := 135) d_Mo_node_135 rfl) ?_
  refine px (fun _ => pm_iload (pc := 136) d_Mo_node_136 rfl) ?_
  refine pxb (fun _ => pm_if_eq (pc := 138) (tgt := 145) d_Mo_node_138 (by decide)) (fun c_6 => absurd c_6 (by decide)) (fun c_6 => ?_)
  refine px (fun _ => pm_iconst (v := 1) (pc := 141) d_Mo_node_141 rfl) ?_
  refine px (fun _ => pm_goto (tgt := 159) (pc := 142) d_Mo_node_142 (by decide)) ?_
  refine px (fun _ => pm_putfC (c' := pm_Ob 4 [.ref (96), .ref (97), .ref (98), .ref (99), .ref (100), .ref (101), .ref (102), .ref (103), .ref (104), .ref (105), .ref (106), .ref (107), .ref (108), .ref (109), .int (nI (mG T 0)), .int (nI (mG T 1)), .int (nI (mG T 2)), .int (nI (mG T 3)), .int (nI (mG T 4)), .int (1), .int (nI (mG T 6))]) fp_Mo_57 (pc := 159) d_Mo_node_159 H.1 (Nat.le_of_ble_eq_true rfl) rfl rfl rfl) ?_
  have H_7 : mH (msG T 5 1) (h.set (95) (pm_Ob 4 [.ref (96), .ref (97), .ref (98), .ref (99), .ref (100), .ref (101), .ref (102), .ref (103), .ref (104), .ref (105), .ref (106), .ref (107), .ref (108), .ref (109), .int (nI (mG T 0)), .int (nI (mG T 1)), .int (nI (mG T 2)), .int (nI (mG T 3)), .int (nI (mG T 4)), .int (1), .int (nI (mG T 6))])) := H.G5 (v := 1)
  refine px (fun _ => pm_aload_n (pc := 162) d_Mo_node_162 rfl) ?_
  refine px (fun _ => pm_getf fl_Mo_57 (pc := 163) d_Mo_node_163 H_7.1 rfl) ?_
  refine pxb (fun _ => pm_if_eq (pc := 166) (tgt := 171) d_Mo_node_166 (by decide)) (fun c_8 => absurd c_8 (fun q => absurd (show nI 1 = 0 from q) (by decide))) (fun c_8 => ?_)
  refine px (fun _ => pm_iconst (v := 0) (pc := 169) d_Mo_node_169 rfl) ?_
  exact pxr (pm_iret (pc := 170) d_Mo_node_170 rfl rfl) ⟨rfl, H_7, (mFr.set _ _ (by omega))⟩
set_option maxHeartbeats 1000000 in
set_option maxRecDepth 20000 in
theorem m_node_a {l : Launch} {G : pm_G} {fi : Bool} {h : pm_H} {T : mS} {k j : Nat} {a b c p q : Int32} (hl : l.stackTraces = false) (H : mH T h) (hk : k < 19) (hj : j < 20) (hp : ¬ p < -8 ∧ ¬ 8 < p)(hq : ¬ q < -8 ∧ ¬ 8 < q) (ha : ¬ gSl a) : pm_Cn l G fi fi 0 0 M_Mo_node [.ref (95), .int (nI k), .int (a), .int (b), .int (c), .int (nI j), .int (p), .int (q)] h (m_P (some (.int 0)) (msG T 5 1) h) := by
  refine pm_Cn.of hl (by decide) (Nat.le_of_ble_eq_true rfl) ?_
  have mk : m_ar k ≤ 3 := by unfold m_ar; (repeat' split) <;> omega
  refine px (fun _ => pm_aload_n (pc := 0) d_Mo_node_0 rfl) ?_
  refine px (fun _ => pm_iload_n (pc := 1) d_Mo_node_1 rfl) ?_
  refine px (fun _ => pm_iconst (v := 0) (pc := 2) d_Mo_node_2 rfl) ?_
  refine px (fun _ => pm_bipush (v := 18) (pc := 3) d_Mo_node_3 rfl) ?_
  refine px (fun _ => k_Mo_node_5 (kc1 := 0) (ks1 := 0) (kc := 0) (ks := 0) (av := [.int (nI k), .int (0), .int (18)]) (st := []) H.1 (m_out_in hl H (g_nin (n := k) (lo := 0) (hi := 18) (by omega) (by omega) (by omega)).1 (g_nin (n := k) (lo := 0) (hi := 18) (by omega) (by omega) (by omega)).2) rfl rfl (Nat.le_of_ble_eq_true rfl)) ?_
  refine pxn (fun _ => pm_if_ne (pc := 8) (tgt := 54) d_Mo_node_8 (by decide)) (fun c_1 => absurd (by decide) c_1) (fun c_1 => ?_)
  refine px (fun _ => pm_aload_n (pc := 11) d_Mo_node_11 rfl) ?_
  refine px (fun _ => pm_iload (pc := 12) d_Mo_node_12 rfl) ?_
  refine px (fun _ => k_Mo_node_14 (kc1 := 0) (ks1 := 0) (kc := 0) (ks := 0) (av := [.int (nI j)]) (st := []) H.1 (m_ns_in hl H hj) rfl rfl (Nat.le_of_ble_eq_true rfl)) ?_
  refine pxn (fun _ => pm_if_ne (pc := 17) (tgt := 54) d_Mo_node_17 (by decide)) (fun c_2 => absurd (by decide) c_2) (fun c_2 => ?_)
  refine px (fun _ => pm_aload_n (pc := 20) d_Mo_node_20 rfl) ?_
  refine px (fun _ => pm_iload (pc := 21) d_Mo_node_21 rfl) ?_
  refine px (fun _ => pm_bipush (v := -8) (pc := 23) d_Mo_node_23 rfl) ?_
  refine px (fun _ => pm_bipush (v := 8) (pc := 25) d_Mo_node_25 rfl) ?_
  refine px (fun _ => k_Mo_node_27 (kc1 := 0) (ks1 := 0) (kc := 0) (ks := 0) (av := [.int (p), .int (-8), .int (8)]) (st := []) H.1 (m_out_in hl H hp.1 hp.2) rfl rfl (Nat.le_of_ble_eq_true rfl)) ?_
  refine pxn (fun _ => pm_if_ne (pc := 30) (tgt := 54) d_Mo_node_30 (by decide)) (fun c_3 => absurd (by decide) c_3) (fun c_3 => ?_)
  refine px (fun _ => pm_aload_n (pc := 33) d_Mo_node_33 rfl) ?_
  refine px (fun _ => pm_iload (pc := 34) d_Mo_node_34 rfl) ?_
  refine px (fun _ => pm_bipush (v := -8) (pc := 36) d_Mo_node_36 rfl) ?_
  refine px (fun _ => pm_bipush (v := 8) (pc := 38) d_Mo_node_38 rfl) ?_
  refine px (fun _ => k_Mo_node_40 (kc1 := 0) (ks1 := 0) (kc := 0) (ks := 0) (av := [.int (q), .int (-8), .int (8)]) (st := []) H.1 (m_out_in hl H hq.1 hq.2) rfl rfl (Nat.le_of_ble_eq_true rfl)) ?_
  refine pxn (fun _ => pm_if_ne (pc := 43) (tgt := 54) d_Mo_node_43 (by decide)) (fun c_4 => absurd (by decide) c_4) (fun c_4 => ?_)
  refine px (fun _ => pm_aload_n (pc := 46) d_Mo_node_46 rfl) ?_
  refine px (fun _ => pm_iload_n (pc := 47) d_Mo_node_47 rfl) ?_
  refine px (fun _ => k_Mo_node_48 (kc1 := 0) (ks1 := 0) (kc := 0) (ks := 0) (av := [.int (a)]) (st := []) H.1 (m_ns_n hl H ha) rfl rfl (Nat.le_of_ble_eq_true rfl)) ?_
  refine pxb (fun _ => pm_if_eq (pc := 51) (tgt := 58) d_Mo_node_51 (by decide)) (fun c_5 => absurd c_5 (by decide)) (fun c_5 => ?_)
  refine px (fun _ => pm_iconst (v := 1) (pc := 54) d_Mo_node_54 rfl) ?_
  refine px (fun _ => pm_goto (tgt := 59) (pc := 55) d_Mo_node_55 (by decide)) ?_
  refine px (fun _ => pm_istore (lv' := [(8, .int (1)), (0, .ref (95)), (1, .int (nI k)), (2, .int (a)), (3, .int (b)), (4, .int (c)), (5, .int (nI j)), (6, .int (p)), (7, .int (q))]) (pc := 59) d_Mo_node_59 (by decide) rfl) ?_
  refine px (fun _ => pm_iload (pc := 61) d_Mo_node_61 rfl) ?_
  refine pxn (fun _ => pm_if_ne (pc := 63) (tgt := 135) d_Mo_node_63 (by decide)) (fun c_6 => ?_) (fun c_6 => absurd c_6 (by decide))
  refine px (fun _ => pm_aload_n (pc := 135) d_Mo_node_135 rfl) ?_
  refine px (fun _ => pm_iload (pc := 136) d_Mo_node_136 rfl) ?_
  refine pxb (fun _ => pm_if_eq (pc := 138) (tgt := 145) d_Mo_node_138 (by decide)) (fun c_7 => absurd c_7 (by decide)) (fun c_7 => ?_)
  refine px (fun _ => pm_iconst (v := 1) (pc := 141) d_Mo_node_141 rfl) ?_
  refine px (fun _ => pm_goto (tgt := 159) (pc := 142) d_Mo_node_142 (by decide)) ?_
  refine px (fun _ => pm_putfC (c' := pm_Ob 4 [.ref (96), .ref (97), .ref (98), .ref (99), .ref (100), .ref (101), .ref (102), .ref (103), .ref (104), .ref (105), .ref (106), .ref (107), .ref (108), .ref (109), .int (nI (mG T 0)), .int (nI (mG T 1)), .int (nI (mG T 2)), .int (nI (mG T 3)), .int (nI (mG T 4)), .int (1), .int (nI (mG T 6))]) fp_Mo_57 (pc := 159) d_Mo_node_159 H.1 (Nat.le_of_ble_eq_true rfl) rfl rfl rfl) ?_
  have H_8 : mH (msG T 5 1) (h.set (95) (pm_Ob 4 [.ref (96), .ref (97), .ref (98), .ref (99), .ref (100), .ref (101), .ref (102), .ref (103), .ref (104), .ref (105), .ref (106), .ref (107), .ref (108), .ref (109), .int (nI (mG T 0)), .int (nI (mG T 1)), .int (nI (mG T 2)), .int (nI (mG T 3)), .int (nI (mG T 4)), .int (1), .int (nI (mG T 6))])) := H.G5 (v := 1)
  refine px (fun _ => pm_aload_n (pc := 162) d_Mo_node_162 rfl) ?_
  refine px (fun _ => pm_getf fl_Mo_57 (pc := 163) d_Mo_node_163 H_8.1 rfl) ?_
  refine pxb (fun _ => pm_if_eq (pc := 166) (tgt := 171) d_Mo_node_166 (by decide)) (fun c_9 => absurd c_9 (fun q => absurd (show nI 1 = 0 from q) (by decide))) (fun c_9 => ?_)
  refine px (fun _ => pm_iconst (v := 0) (pc := 169) d_Mo_node_169 rfl) ?_
  exact pxr (pm_iret (pc := 170) d_Mo_node_170 rfl rfl) ⟨rfl, H_8, (mFr.set _ _ (by omega))⟩
set_option maxHeartbeats 1000000 in
set_option maxRecDepth 20000 in
theorem m_node_k {l : Launch} {G : pm_G} {fi : Bool} {h : pm_H} {T : mS} {k j : Nat} {a b c p q : Int32} (hl : l.stackTraces = false) (H : mH T h) (hk : k < 19) (hj : j < 20) (hp : ¬ p < -8 ∧ ¬ 8 < p)(hq : ¬ q < -8 ∧ ¬ 8 < q) (ha : gSl a) (hf : ¬ nI (mA T 0 j) = 0) : pm_Cn l G fi fi 0 0 M_Mo_node [.ref (95), .int (nI k), .int (a), .int (b), .int (c), .int (nI j), .int (p), .int (q)] h (m_P (some (.int 0)) (msG T 5 1) h) := by
  refine pm_Cn.of hl (by decide) (Nat.le_of_ble_eq_true rfl) ?_
  have mk : m_ar k ≤ 3 := by unfold m_ar; (repeat' split) <;> omega
  refine px (fun _ => pm_aload_n (pc := 0) d_Mo_node_0 rfl) ?_
  refine px (fun _ => pm_iload_n (pc := 1) d_Mo_node_1 rfl) ?_
  refine px (fun _ => pm_iconst (v := 0) (pc := 2) d_Mo_node_2 rfl) ?_
  refine px (fun _ => pm_bipush (v := 18) (pc := 3) d_Mo_node_3 rfl) ?_
  refine px (fun _ => k_Mo_node_5 (kc1 := 0) (ks1 := 0) (kc := 0) (ks := 0) (av := [.int (nI k), .int (0), .int (18)]) (st := []) H.1 (m_out_in hl H (g_nin (n := k) (lo := 0) (hi := 18) (by omega) (by omega) (by omega)).1 (g_nin (n := k) (lo := 0) (hi := 18) (by omega) (by omega) (by omega)).2) rfl rfl (Nat.le_of_ble_eq_true rfl)) ?_
  refine pxn (fun _ => pm_if_ne (pc := 8) (tgt := 54) d_Mo_node_8 (by decide)) (fun c_1 => absurd (by decide) c_1) (fun c_1 => ?_)
  refine px (fun _ => pm_aload_n (pc := 11) d_Mo_node_11 rfl) ?_
  refine px (fun _ => pm_iload (pc := 12) d_Mo_node_12 rfl) ?_
  refine px (fun _ => k_Mo_node_14 (kc1 := 0) (ks1 := 0) (kc := 0) (ks := 0) (av := [.int (nI j)]) (st := []) H.1 (m_ns_in hl H hj) rfl rfl (Nat.le_of_ble_eq_true rfl)) ?_
  refine pxn (fun _ => pm_if_ne (pc := 17) (tgt := 54) d_Mo_node_17 (by decide)) (fun c_2 => absurd (by decide) c_2) (fun c_2 => ?_)
  refine px (fun _ => pm_aload_n (pc := 20) d_Mo_node_20 rfl) ?_
  refine px (fun _ => pm_iload (pc := 21) d_Mo_node_21 rfl) ?_
  refine px (fun _ => pm_bipush (v := -8) (pc := 23) d_Mo_node_23 rfl) ?_
  refine px (fun _ => pm_bipush (v := 8) (pc := 25) d_Mo_node_25 rfl) ?_
  refine px (fun _ => k_Mo_node_27 (kc1 := 0) (ks1 := 0) (kc := 0) (ks := 0) (av := [.int (p), .int (-8), .int (8)]) (st := []) H.1 (m_out_in hl H hp.1 hp.2) rfl rfl (Nat.le_of_ble_eq_true rfl)) ?_
  refine pxn (fun _ => pm_if_ne (pc := 30) (tgt := 54) d_Mo_node_30 (by decide)) (fun c_3 => absurd (by decide) c_3) (fun c_3 => ?_)
  refine px (fun _ => pm_aload_n (pc := 33) d_Mo_node_33 rfl) ?_
  refine px (fun _ => pm_iload (pc := 34) d_Mo_node_34 rfl) ?_
  refine px (fun _ => pm_bipush (v := -8) (pc := 36) d_Mo_node_36 rfl) ?_
  refine px (fun _ => pm_bipush (v := 8) (pc := 38) d_Mo_node_38 rfl) ?_
  refine px (fun _ => k_Mo_node_40 (kc1 := 0) (ks1 := 0) (kc := 0) (ks := 0) (av := [.int (q), .int (-8), .int (8)]) (st := []) H.1 (m_out_in hl H hq.1 hq.2) rfl rfl (Nat.le_of_ble_eq_true rfl)) ?_
  refine pxn (fun _ => pm_if_ne (pc := 43) (tgt := 54) d_Mo_node_43 (by decide)) (fun c_4 => absurd (by decide) c_4) (fun c_4 => ?_)
  refine px (fun _ => pm_aload_n (pc := 46) d_Mo_node_46 rfl) ?_
  refine px (fun _ => pm_iload_n (pc := 47) d_Mo_node_47 rfl) ?_
  refine px (fun _ => k_Mo_node_48 (kc1 := 0) (ks1 := 0) (kc := 0) (ks := 0) (av := [.int (a)]) (st := []) H.1 (m_ns_s hl H ha) rfl rfl (Nat.le_of_ble_eq_true rfl)) ?_
  refine pxb (fun _ => pm_if_eq (pc := 51) (tgt := 58) d_Mo_node_51 (by decide)) (fun c_5 => ?_) (fun c_5 => absurd (by decide) c_5)
  refine px (fun _ => pm_iconst (v := 0) (pc := 58) d_Mo_node_58 rfl) ?_
  refine px (fun _ => pm_istore (lv' := [(8, .int (0)), (0, .ref (95)), (1, .int (nI k)), (2, .int (a)), (3, .int (b)), (4, .int (c)), (5, .int (nI j)), (6, .int (p)), (7, .int (q))]) (pc := 59) d_Mo_node_59 (by decide) rfl) ?_
  refine px (fun _ => pm_iload (pc := 61) d_Mo_node_61 rfl) ?_
  refine pxn (fun _ => pm_if_ne (pc := 63) (tgt := 135) d_Mo_node_63 (by decide)) (fun c_6 => absurd (by decide) c_6) (fun c_6 => ?_)
  refine px (fun _ => pm_aload_n (pc := 66) d_Mo_node_66 rfl) ?_
  refine px (fun _ => pm_getf fl_Mo_7 (pc := 67) d_Mo_node_67 H.1 rfl) ?_
  refine px (fun _ => pm_iload (pc := 70) d_Mo_node_70 rfl) ?_
  refine px (fun _ => pm_iald (j := j) (pc := 72) d_Mo_node_72 H.2.1 (rfl) (hj) (by decide)) ?_
  refine pxn (fun _ => pm_if_ne (pc := 73) (tgt := 128) d_Mo_node_73 (by decide)) (fun c_7 => ?_) (fun c_7 => absurd c_7 (hf))
  refine px (fun _ => pm_iconst (v := 1) (pc := 128) d_Mo_node_128 rfl) ?_
  refine px (fun _ => pm_goto (tgt := 133) (pc := 129) d_Mo_node_129 (by decide)) ?_
  refine px (fun _ => pm_istore (lv' := [(8, .int (1)), (0, .ref (95)), (1, .int (nI k)), (2, .int (a)), (3, .int (b)), (4, .int (c)), (5, .int (nI j)), (6, .int (p)), (7, .int (q))]) (pc := 133) d_Mo_node_133 (by decide) rfl) ?_
  refine px (fun _ => pm_aload_n (pc := 135) d_Mo_node_135 rfl) ?_
  refine px (fun _ => pm_iload (pc := 136) d_Mo_node_136 rfl) ?_
  refine pxb (fun _ => pm_if_eq (pc := 138) (tgt := 145) d_Mo_node_138 (by decide)) (fun c_8 => absurd c_8 (by decide)) (fun c_8 => ?_)
  refine px (fun _ => pm_iconst (v := 1) (pc := 141) d_Mo_node_141 rfl) ?_
  refine px (fun _ => pm_goto (tgt := 159) (pc := 142) d_Mo_node_142 (by decide)) ?_
  refine px (fun _ => pm_putfC (c' := pm_Ob 4 [.ref (96), .ref (97), .ref (98), .ref (99), .ref (100), .ref (101), .ref (102), .ref (103), .ref (104), .ref (105), .ref (106), .ref (107), .ref (108), .ref (109), .int (nI (mG T 0)), .int (nI (mG T 1)), .int (nI (mG T 2)), .int (nI (mG T 3)), .int (nI (mG T 4)), .int (1), .int (nI (mG T 6))]) fp_Mo_57 (pc := 159) d_Mo_node_159 H.1 (Nat.le_of_ble_eq_true rfl) rfl rfl rfl) ?_
  have H_9 : mH (msG T 5 1) (h.set (95) (pm_Ob 4 [.ref (96), .ref (97), .ref (98), .ref (99), .ref (100), .ref (101), .ref (102), .ref (103), .ref (104), .ref (105), .ref (106), .ref (107), .ref (108), .ref (109), .int (nI (mG T 0)), .int (nI (mG T 1)), .int (nI (mG T 2)), .int (nI (mG T 3)), .int (nI (mG T 4)), .int (1), .int (nI (mG T 6))])) := H.G5 (v := 1)
  refine px (fun _ => pm_aload_n (pc := 162) d_Mo_node_162 rfl) ?_
  refine px (fun _ => pm_getf fl_Mo_57 (pc := 163) d_Mo_node_163 H_9.1 rfl) ?_
  refine pxb (fun _ => pm_if_eq (pc := 166) (tgt := 171) d_Mo_node_166 (by decide)) (fun c_10 => absurd c_10 (fun q => absurd (show nI 1 = 0 from q) (by decide))) (fun c_10 => ?_)
  refine px (fun _ => pm_iconst (v := 0) (pc := 169) d_Mo_node_169 rfl) ?_
  exact pxr (pm_iret (pc := 170) d_Mo_node_170 rfl rfl) ⟨rfl, H_9, (mFr.set _ _ (by omega))⟩
set_option maxHeartbeats 1000000 in
set_option maxRecDepth 20000 in
theorem m_node_bb {l : Launch} {G : pm_G} {fi : Bool} {h : pm_H} {T : mS} {k j : Nat} {a b c p q : Int32} (hl : l.stackTraces = false) (H : mH T h) (hk : k < 19) (hj : j < 20) (hp : ¬ p < -8 ∧ ¬ 8 < p)(hq : ¬ q < -8 ∧ ¬ 8 < q) (ha : gSl a) (hf : mA T 0 j = 0) (hb : ¬ (m_ar k < 2 ∧ b = -1 ∨ ¬ m_ar k < 2 ∧ gSl b)) : pm_Cn l G fi fi 0 0 M_Mo_node [.ref (95), .int (nI k), .int (a), .int (b), .int (c), .int (nI j), .int (p), .int (q)] h (m_P (some (.int 0)) (msG T 5 1) h) := by
  refine pm_Cn.of hl (by decide) (Nat.le_of_ble_eq_true rfl) ?_
  have mk : m_ar k ≤ 3 := by unfold m_ar; (repeat' split) <;> omega
  refine px (fun _ => pm_aload_n (pc := 0) d_Mo_node_0 rfl) ?_
  refine px (fun _ => pm_iload_n (pc := 1) d_Mo_node_1 rfl) ?_
  refine px (fun _ => pm_iconst (v := 0) (pc := 2) d_Mo_node_2 rfl) ?_
  refine px (fun _ => pm_bipush (v := 18) (pc := 3) d_Mo_node_3 rfl) ?_
  refine px (fun _ => k_Mo_node_5 (kc1 := 0) (ks1 := 0) (kc := 0) (ks := 0) (av := [.int (nI k), .int (0), .int (18)]) (st := []) H.1 (m_out_in hl H (g_nin (n := k) (lo := 0) (hi := 18) (by omega) (by omega) (by omega)).1 (g_nin (n := k) (lo := 0) (hi := 18) (by omega) (by omega) (by omega)).2) rfl rfl (Nat.le_of_ble_eq_true rfl)) ?_
  refine pxn (fun _ => pm_if_ne (pc := 8) (tgt := 54) d_Mo_node_8 (by decide)) (fun c_1 => absurd (by decide) c_1) (fun c_1 => ?_)
  refine px (fun _ => pm_aload_n (pc := 11) d_Mo_node_11 rfl) ?_
  refine px (fun _ => pm_iload (pc := 12) d_Mo_node_12 rfl) ?_
  refine px (fun _ => k_Mo_node_14 (kc1 := 0) (ks1 := 0) (kc := 0) (ks := 0) (av := [.int (nI j)]) (st := []) H.1 (m_ns_in hl H hj) rfl rfl (Nat.le_of_ble_eq_true rfl)) ?_
  refine pxn (fun _ => pm_if_ne (pc := 17) (tgt := 54) d_Mo_node_17 (by decide)) (fun c_2 => absurd (by decide) c_2) (fun c_2 => ?_)
  refine px (fun _ => pm_aload_n (pc := 20) d_Mo_node_20 rfl) ?_
  refine px (fun _ => pm_iload (pc := 21) d_Mo_node_21 rfl) ?_
  refine px (fun _ => pm_bipush (v := -8) (pc := 23) d_Mo_node_23 rfl) ?_
  refine px (fun _ => pm_bipush (v := 8) (pc := 25) d_Mo_node_25 rfl) ?_
  refine px (fun _ => k_Mo_node_27 (kc1 := 0) (ks1 := 0) (kc := 0) (ks := 0) (av := [.int (p), .int (-8), .int (8)]) (st := []) H.1 (m_out_in hl H hp.1 hp.2) rfl rfl (Nat.le_of_ble_eq_true rfl)) ?_
  refine pxn (fun _ => pm_if_ne (pc := 30) (tgt := 54) d_Mo_node_30 (by decide)) (fun c_3 => absurd (by decide) c_3) (fun c_3 => ?_)
  refine px (fun _ => pm_aload_n (pc := 33) d_Mo_node_33 rfl) ?_
  refine px (fun _ => pm_iload (pc := 34) d_Mo_node_34 rfl) ?_
  refine px (fun _ => pm_bipush (v := -8) (pc := 36) d_Mo_node_36 rfl) ?_
  refine px (fun _ => pm_bipush (v := 8) (pc := 38) d_Mo_node_38 rfl) ?_
  refine px (fun _ => k_Mo_node_40 (kc1 := 0) (ks1 := 0) (kc := 0) (ks := 0) (av := [.int (q), .int (-8), .int (8)]) (st := []) H.1 (m_out_in hl H hq.1 hq.2) rfl rfl (Nat.le_of_ble_eq_true rfl)) ?_
  refine pxn (fun _ => pm_if_ne (pc := 43) (tgt := 54) d_Mo_node_43 (by decide)) (fun c_4 => absurd (by decide) c_4) (fun c_4 => ?_)
  refine px (fun _ => pm_aload_n (pc := 46) d_Mo_node_46 rfl) ?_
  refine px (fun _ => pm_iload_n (pc := 47) d_Mo_node_47 rfl) ?_
  refine px (fun _ => k_Mo_node_48 (kc1 := 0) (ks1 := 0) (kc := 0) (ks := 0) (av := [.int (a)]) (st := []) H.1 (m_ns_s hl H ha) rfl rfl (Nat.le_of_ble_eq_true rfl)) ?_
  refine pxb (fun _ => pm_if_eq (pc := 51) (tgt := 58) d_Mo_node_51 (by decide)) (fun c_5 => ?_) (fun c_5 => absurd (by decide) c_5)
  refine px (fun _ => pm_iconst (v := 0) (pc := 58) d_Mo_node_58 rfl) ?_
  refine px (fun _ => pm_istore (lv' := [(8, .int (0)), (0, .ref (95)), (1, .int (nI k)), (2, .int (a)), (3, .int (b)), (4, .int (c)), (5, .int (nI j)), (6, .int (p)), (7, .int (q))]) (pc := 59) d_Mo_node_59 (by decide) rfl) ?_
  refine px (fun _ => pm_iload (pc := 61) d_Mo_node_61 rfl) ?_
  refine pxn (fun _ => pm_if_ne (pc := 63) (tgt := 135) d_Mo_node_63 (by decide)) (fun c_6 => absurd (by decide) c_6) (fun c_6 => ?_)
  refine px (fun _ => pm_aload_n (pc := 66) d_Mo_node_66 rfl) ?_
  refine px (fun _ => pm_getf fl_Mo_7 (pc := 67) d_Mo_node_67 H.1 rfl) ?_
  refine px (fun _ => pm_iload (pc := 70) d_Mo_node_70 rfl) ?_
  refine px (fun _ => pm_iald (j := j) (pc := 72) d_Mo_node_72 H.2.1 (rfl) (hj) (by decide)) ?_
  refine pxn (fun _ => pm_if_ne (pc := 73) (tgt := 128) d_Mo_node_73 (by decide)) (fun c_7 => absurd (by rw [hf]; rfl) c_7) (fun c_7 => ?_)
  refine px (fun _ => pm_aload_n (pc := 76) d_Mo_node_76 rfl) ?_
  refine px (fun _ => pm_iload_n (pc := 77) d_Mo_node_77 rfl) ?_
  refine px (fun _ => k_Mo_node_78 (kc1 := 0) (ks1 := 0) (kc := 0) (ks := 0) (av := [.int (nI k)]) (st := []) H.1 (m_arity hl H hk) rfl rfl (Nat.le_of_ble_eq_true rfl)) ?_
  refine px (fun _ => pm_iconst (v := 1) (pc := 81) d_Mo_node_81 rfl) ?_
  refine pxb (fun _ => pm_icmp_le (pc := 82) (tgt := 96) d_Mo_node_82 (by decide)) (fun c_8 => ?_) (fun c_8 => ?_)
  · have n_c_8 : (m_ar k) ≤ 1 := (nI_leI (a := (m_ar k)) (b := 1) (by omega) (by omega)).mp c_8
    refine px (fun _ => pm_iload_n (pc := 96) d_Mo_node_96 rfl) ?_
    refine px (fun _ => pm_iconst (v := -1) (pc := 97) d_Mo_node_97 rfl) ?_
    refine pxn (fun _ => pm_icmp_ne (pc := 98) (tgt := 128) d_Mo_node_98 (by decide)) (fun c_9 => ?_) (fun c_9 => absurd c_9 (fun q => hb (Or.inl ⟨by omega, q⟩)))
    refine px (fun _ => pm_iconst (v := 1) (pc := 128) d_Mo_node_128 rfl) ?_
    refine px (fun _ => pm_goto (tgt := 133) (pc := 129) d_Mo_node_129 (by decide)) ?_
    refine px (fun _ => pm_istore (lv' := [(8, .int (1)), (0, .ref (95)), (1, .int (nI k)), (2, .int (a)), (3, .int (b)), (4, .int (c)), (5, .int (nI j)), (6, .int (p)), (7, .int (q))]) (pc := 133) d_Mo_node_133 (by decide) rfl) ?_
    refine px (fun _ => pm_aload_n (pc := 135) d_Mo_node_135 rfl) ?_
    refine px (fun _ => pm_iload (pc := 136) d_Mo_node_136 rfl) ?_
    refine pxb (fun _ => pm_if_eq (pc := 138) (tgt := 145) d_Mo_node_138 (by decide)) (fun c_10 => absurd c_10 (by decide)) (fun c_10 => ?_)
    refine px (fun _ => pm_iconst (v := 1) (pc := 141) d_Mo_node_141 rfl) ?_
    refine px (fun _ => pm_goto (tgt := 159) (pc := 142) d_Mo_node_142 (by decide)) ?_
    refine px (fun _ => pm_putfC (c' := pm_Ob 4 [.ref (96), .ref (97), .ref (98), .ref (99), .ref (100), .ref (101), .ref (102), .ref (103), .ref (104), .ref (105), .ref (106), .ref (107), .ref (108), .ref (109), .int (nI (mG T 0)), .int (nI (mG T 1)), .int (nI (mG T 2)), .int (nI (mG T 3)), .int (nI (mG T 4)), .int (1), .int (nI (mG T 6))]) fp_Mo_57 (pc := 159) d_Mo_node_159 H.1 (Nat.le_of_ble_eq_true rfl) rfl rfl rfl) ?_
    have H_11 : mH (msG T 5 1) (h.set (95) (pm_Ob 4 [.ref (96), .ref (97), .ref (98), .ref (99), .ref (100), .ref (101), .ref (102), .ref (103), .ref (104), .ref (105), .ref (106), .ref (107), .ref (108), .ref (109), .int (nI (mG T 0)), .int (nI (mG T 1)), .int (nI (mG T 2)), .int (nI (mG T 3)), .int (nI (mG T 4)), .int (1), .int (nI (mG T 6))])) := H.G5 (v := 1)
    refine px (fun _ => pm_aload_n (pc := 162) d_Mo_node_162 rfl) ?_
    refine px (fun _ => pm_getf fl_Mo_57 (pc := 163) d_Mo_node_163 H_11.1 rfl) ?_
    refine pxb (fun _ => pm_if_eq (pc := 166) (tgt := 171) d_Mo_node_166 (by decide)) (fun c_12 => absurd c_12 (fun q => absurd (show nI 1 = 0 from q) (by decide))) (fun c_12 => ?_)
    refine px (fun _ => pm_iconst (v := 0) (pc := 169) d_Mo_node_169 rfl) ?_
    exact pxr (pm_iret (pc := 170) d_Mo_node_170 rfl rfl) ⟨rfl, H_11, (mFr.set _ _ (by omega))⟩
  · have n_c_8 : ¬ ((m_ar k) ≤ 1) := fun zq => c_8 ((nI_leI (a := (m_ar k)) (b := 1) (by omega) (by omega)).mpr zq)
    refine px (fun _ => pm_aload_n (pc := 85) d_Mo_node_85 rfl) ?_
    refine px (fun _ => pm_iload_n (pc := 86) d_Mo_node_86 rfl) ?_
    refine px (fun _ => k_Mo_node_87 (kc1 := 0) (ks1 := 0) (kc := 0) (ks := 0) (av := [.int (b)]) (st := []) H.1 (m_ns_n hl H (fun q => hb (Or.inr ⟨by omega, q⟩))) rfl rfl (Nat.le_of_ble_eq_true rfl)) ?_
    refine pxb (fun _ => pm_if_eq (pc := 90) (tgt := 101) d_Mo_node_90 (by decide)) (fun c_13 => absurd c_13 (by decide)) (fun c_13 => ?_)
    refine px (fun _ => pm_goto (tgt := 128) (pc := 93) d_Mo_node_93 (by decide)) ?_
    refine px (fun _ => pm_iconst (v := 1) (pc := 128) d_Mo_node_128 rfl) ?_
    refine px (fun _ => pm_goto (tgt := 133) (pc := 129) d_Mo_node_129 (by decide)) ?_
    refine px (fun _ => pm_istore (lv' := [(8, .int (1)), (0, .ref (95)), (1, .int (nI k)), (2, .int (a)), (3, .int (b)), (4, .int (c)), (5, .int (nI j)), (6, .int (p)), (7, .int (q))]) (pc := 133) d_Mo_node_133 (by decide) rfl) ?_
    refine px (fun _ => pm_aload_n (pc := 135) d_Mo_node_135 rfl) ?_
    refine px (fun _ => pm_iload (pc := 136) d_Mo_node_136 rfl) ?_
    refine pxb (fun _ => pm_if_eq (pc := 138) (tgt := 145) d_Mo_node_138 (by decide)) (fun c_14 => absurd c_14 (by decide)) (fun c_14 => ?_)
    refine px (fun _ => pm_iconst (v := 1) (pc := 141) d_Mo_node_141 rfl) ?_
    refine px (fun _ => pm_goto (tgt := 159) (pc := 142) d_Mo_node_142 (by decide)) ?_
    refine px (fun _ => pm_putfC (c' := pm_Ob 4 [.ref (96), .ref (97), .ref (98), .ref (99), .ref (100), .ref (101), .ref (102), .ref (103), .ref (104), .ref (105), .ref (106), .ref (107), .ref (108), .ref (109), .int (nI (mG T 0)), .int (nI (mG T 1)), .int (nI (mG T 2)), .int (nI (mG T 3)), .int (nI (mG T 4)), .int (1), .int (nI (mG T 6))]) fp_Mo_57 (pc := 159) d_Mo_node_159 H.1 (Nat.le_of_ble_eq_true rfl) rfl rfl rfl) ?_
    have H_15 : mH (msG T 5 1) (h.set (95) (pm_Ob 4 [.ref (96), .ref (97), .ref (98), .ref (99), .ref (100), .ref (101), .ref (102), .ref (103), .ref (104), .ref (105), .ref (106), .ref (107), .ref (108), .ref (109), .int (nI (mG T 0)), .int (nI (mG T 1)), .int (nI (mG T 2)), .int (nI (mG T 3)), .int (nI (mG T 4)), .int (1), .int (nI (mG T 6))])) := H.G5 (v := 1)
    refine px (fun _ => pm_aload_n (pc := 162) d_Mo_node_162 rfl) ?_
    refine px (fun _ => pm_getf fl_Mo_57 (pc := 163) d_Mo_node_163 H_15.1 rfl) ?_
    refine pxb (fun _ => pm_if_eq (pc := 166) (tgt := 171) d_Mo_node_166 (by decide)) (fun c_16 => absurd c_16 (fun q => absurd (show nI 1 = 0 from q) (by decide))) (fun c_16 => ?_)
    refine px (fun _ => pm_iconst (v := 0) (pc := 169) d_Mo_node_169 rfl) ?_
    exact pxr (pm_iret (pc := 170) d_Mo_node_170 rfl rfl) ⟨rfl, H_15, (mFr.set _ _ (by omega))⟩
set_option maxHeartbeats 1000000 in
set_option maxRecDepth 20000 in
theorem m_node_cc {l : Launch} {G : pm_G} {fi : Bool} {h : pm_H} {T : mS} {k j : Nat} {a b c p q : Int32} (hl : l.stackTraces = false) (H : mH T h) (hk : k < 19) (hj : j < 20) (hp : ¬ p < -8 ∧ ¬ 8 < p)(hq : ¬ q < -8 ∧ ¬ 8 < q) (ha : gSl a) (hf : mA T 0 j = 0) (hb : m_ar k < 2 ∧ b = -1 ∨ ¬ m_ar k < 2 ∧ gSl b) (hc : ¬ (m_ar k < 3 ∧ c = -1 ∨ ¬ m_ar k < 3 ∧ gSl c)) : pm_Cn l G fi fi 0 0 M_Mo_node [.ref (95), .int (nI k), .int (a), .int (b), .int (c), .int (nI j), .int (p), .int (q)] h (m_P (some (.int 0)) (msG T 5 1) h) := by
  refine pm_Cn.of hl (by decide) (Nat.le_of_ble_eq_true rfl) ?_
  have mk : m_ar k ≤ 3 := by unfold m_ar; (repeat' split) <;> omega
  refine px (fun _ => pm_aload_n (pc := 0) d_Mo_node_0 rfl) ?_
  refine px (fun _ => pm_iload_n (pc := 1) d_Mo_node_1 rfl) ?_
  refine px (fun _ => pm_iconst (v := 0) (pc := 2) d_Mo_node_2 rfl) ?_
  refine px (fun _ => pm_bipush (v := 18) (pc := 3) d_Mo_node_3 rfl) ?_
  refine px (fun _ => k_Mo_node_5 (kc1 := 0) (ks1 := 0) (kc := 0) (ks := 0) (av := [.int (nI k), .int (0), .int (18)]) (st := []) H.1 (m_out_in hl H (g_nin (n := k) (lo := 0) (hi := 18) (by omega) (by omega) (by omega)).1 (g_nin (n := k) (lo := 0) (hi := 18) (by omega) (by omega) (by omega)).2) rfl rfl (Nat.le_of_ble_eq_true rfl)) ?_
  refine pxn (fun _ => pm_if_ne (pc := 8) (tgt := 54) d_Mo_node_8 (by decide)) (fun c_1 => absurd (by decide) c_1) (fun c_1 => ?_)
  refine px (fun _ => pm_aload_n (pc := 11) d_Mo_node_11 rfl) ?_
  refine px (fun _ => pm_iload (pc := 12) d_Mo_node_12 rfl) ?_
  refine px (fun _ => k_Mo_node_14 (kc1 := 0) (ks1 := 0) (kc := 0) (ks := 0) (av := [.int (nI j)]) (st := []) H.1 (m_ns_in hl H hj) rfl rfl (Nat.le_of_ble_eq_true rfl)) ?_
  refine pxn (fun _ => pm_if_ne (pc := 17) (tgt := 54) d_Mo_node_17 (by decide)) (fun c_2 => absurd (by decide) c_2) (fun c_2 => ?_)
  refine px (fun _ => pm_aload_n (pc := 20) d_Mo_node_20 rfl) ?_
  refine px (fun _ => pm_iload (pc := 21) d_Mo_node_21 rfl) ?_
  refine px (fun _ => pm_bipush (v := -8) (pc := 23) d_Mo_node_23 rfl) ?_
  refine px (fun _ => pm_bipush (v := 8) (pc := 25) d_Mo_node_25 rfl) ?_
  refine px (fun _ => k_Mo_node_27 (kc1 := 0) (ks1 := 0) (kc := 0) (ks := 0) (av := [.int (p), .int (-8), .int (8)]) (st := []) H.1 (m_out_in hl H hp.1 hp.2) rfl rfl (Nat.le_of_ble_eq_true rfl)) ?_
  refine pxn (fun _ => pm_if_ne (pc := 30) (tgt := 54) d_Mo_node_30 (by decide)) (fun c_3 => absurd (by decide) c_3) (fun c_3 => ?_)
  refine px (fun _ => pm_aload_n (pc := 33) d_Mo_node_33 rfl) ?_
  refine px (fun _ => pm_iload (pc := 34) d_Mo_node_34 rfl) ?_
  refine px (fun _ => pm_bipush (v := -8) (pc := 36) d_Mo_node_36 rfl) ?_
  refine px (fun _ => pm_bipush (v := 8) (pc := 38) d_Mo_node_38 rfl) ?_
  refine px (fun _ => k_Mo_node_40 (kc1 := 0) (ks1 := 0) (kc := 0) (ks := 0) (av := [.int (q), .int (-8), .int (8)]) (st := []) H.1 (m_out_in hl H hq.1 hq.2) rfl rfl (Nat.le_of_ble_eq_true rfl)) ?_
  refine pxn (fun _ => pm_if_ne (pc := 43) (tgt := 54) d_Mo_node_43 (by decide)) (fun c_4 => absurd (by decide) c_4) (fun c_4 => ?_)
  refine px (fun _ => pm_aload_n (pc := 46) d_Mo_node_46 rfl) ?_
  refine px (fun _ => pm_iload_n (pc := 47) d_Mo_node_47 rfl) ?_
  refine px (fun _ => k_Mo_node_48 (kc1 := 0) (ks1 := 0) (kc := 0) (ks := 0) (av := [.int (a)]) (st := []) H.1 (m_ns_s hl H ha) rfl rfl (Nat.le_of_ble_eq_true rfl)) ?_
  refine pxb (fun _ => pm_if_eq (pc := 51) (tgt := 58) d_Mo_node_51 (by decide)) (fun c_5 => ?_) (fun c_5 => absurd (by decide) c_5)
  refine px (fun _ => pm_iconst (v := 0) (pc := 58) d_Mo_node_58 rfl) ?_
  refine px (fun _ => pm_istore (lv' := [(8, .int (0)), (0, .ref (95)), (1, .int (nI k)), (2, .int (a)), (3, .int (b)), (4, .int (c)), (5, .int (nI j)), (6, .int (p)), (7, .int (q))]) (pc := 59) d_Mo_node_59 (by decide) rfl) ?_
  refine px (fun _ => pm_iload (pc := 61) d_Mo_node_61 rfl) ?_
  refine pxn (fun _ => pm_if_ne (pc := 63) (tgt := 135) d_Mo_node_63 (by decide)) (fun c_6 => absurd (by decide) c_6) (fun c_6 => ?_)
  refine px (fun _ => pm_aload_n (pc := 66) d_Mo_node_66 rfl) ?_
  refine px (fun _ => pm_getf fl_Mo_7 (pc := 67) d_Mo_node_67 H.1 rfl) ?_
  refine px (fun _ => pm_iload (pc := 70) d_Mo_node_70 rfl) ?_
  refine px (fun _ => pm_iald (j := j) (pc := 72) d_Mo_node_72 H.2.1 (rfl) (hj) (by decide)) ?_
  refine pxn (fun _ => pm_if_ne (pc := 73) (tgt := 128) d_Mo_node_73 (by decide)) (fun c_7 => absurd (by rw [hf]; rfl) c_7) (fun c_7 => ?_)
  refine px (fun _ => pm_aload_n (pc := 76) d_Mo_node_76 rfl) ?_
  refine px (fun _ => pm_iload_n (pc := 77) d_Mo_node_77 rfl) ?_
  refine px (fun _ => k_Mo_node_78 (kc1 := 0) (ks1 := 0) (kc := 0) (ks := 0) (av := [.int (nI k)]) (st := []) H.1 (m_arity hl H hk) rfl rfl (Nat.le_of_ble_eq_true rfl)) ?_
  refine px (fun _ => pm_iconst (v := 1) (pc := 81) d_Mo_node_81 rfl) ?_
  refine pxb (fun _ => pm_icmp_le (pc := 82) (tgt := 96) d_Mo_node_82 (by decide)) (fun c_8 => ?_) (fun c_8 => ?_)
  · have n_c_8 : (m_ar k) ≤ 1 := (nI_leI (a := (m_ar k)) (b := 1) (by omega) (by omega)).mp c_8
    refine px (fun _ => pm_iload_n (pc := 96) d_Mo_node_96 rfl) ?_
    refine px (fun _ => pm_iconst (v := -1) (pc := 97) d_Mo_node_97 rfl) ?_
    refine pxn (fun _ => pm_icmp_ne (pc := 98) (tgt := 128) d_Mo_node_98 (by decide)) (fun c_9 => absurd ((hb.resolve_right (fun q => q.1 (by omega))).2) c_9) (fun c_9 => ?_)
    refine px (fun _ => pm_aload_n (pc := 101) d_Mo_node_101 rfl) ?_
    refine px (fun _ => pm_iload_n (pc := 102) d_Mo_node_102 rfl) ?_
    refine px (fun _ => k_Mo_node_103 (kc1 := 0) (ks1 := 0) (kc := 0) (ks := 0) (av := [.int (nI k)]) (st := []) H.1 (m_arity hl H hk) rfl rfl (Nat.le_of_ble_eq_true rfl)) ?_
    refine px (fun _ => pm_iconst (v := 2) (pc := 106) d_Mo_node_106 rfl) ?_
    refine pxb (fun _ => pm_icmp_le (pc := 107) (tgt := 122) d_Mo_node_107 (by decide)) (fun c_10 => ?_) (fun c_10 => ?_)
    · have n_c_10 : (m_ar k) ≤ 2 := (nI_leI (a := (m_ar k)) (b := 2) (by omega) (by omega)).mp c_10
      refine px (fun _ => pm_iload (pc := 122) d_Mo_node_122 rfl) ?_
      refine px (fun _ => pm_iconst (v := -1) (pc := 124) d_Mo_node_124 rfl) ?_
      refine pxb (fun _ => pm_icmp_eq (pc := 125) (tgt := 132) d_Mo_node_125 (by decide)) (fun c_11 => absurd c_11 (fun q => hc (Or.inl ⟨by omega, q⟩))) (fun c_11 => ?_)
      refine px (fun _ => pm_iconst (v := 1) (pc := 128) d_Mo_node_128 rfl) ?_
      refine px (fun _ => pm_goto (tgt := 133) (pc := 129) d_Mo_node_129 (by decide)) ?_
      refine px (fun _ => pm_istore (lv' := [(8, .int (1)), (0, .ref (95)), (1, .int (nI k)), (2, .int (a)), (3, .int (b)), (4, .int (c)), (5, .int (nI j)), (6, .int (p)), (7, .int (q))]) (pc := 133) d_Mo_node_133 (by decide) rfl) ?_
      refine px (fun _ => pm_aload_n (pc := 135) d_Mo_node_135 rfl) ?_
      refine px (fun _ => pm_iload (pc := 136) d_Mo_node_136 rfl) ?_
      refine pxb (fun _ => pm_if_eq (pc := 138) (tgt := 145) d_Mo_node_138 (by decide)) (fun c_12 => absurd c_12 (by decide)) (fun c_12 => ?_)
      refine px (fun _ => pm_iconst (v := 1) (pc := 141) d_Mo_node_141 rfl) ?_
      refine px (fun _ => pm_goto (tgt := 159) (pc := 142) d_Mo_node_142 (by decide)) ?_
      refine px (fun _ => pm_putfC (c' := pm_Ob 4 [.ref (96), .ref (97), .ref (98), .ref (99), .ref (100), .ref (101), .ref (102), .ref (103), .ref (104), .ref (105), .ref (106), .ref (107), .ref (108), .ref (109), .int (nI (mG T 0)), .int (nI (mG T 1)), .int (nI (mG T 2)), .int (nI (mG T 3)), .int (nI (mG T 4)), .int (1), .int (nI (mG T 6))]) fp_Mo_57 (pc := 159) d_Mo_node_159 H.1 (Nat.le_of_ble_eq_true rfl) rfl rfl rfl) ?_
      have H_13 : mH (msG T 5 1) (h.set (95) (pm_Ob 4 [.ref (96), .ref (97), .ref (98), .ref (99), .ref (100), .ref (101), .ref (102), .ref (103), .ref (104), .ref (105), .ref (106), .ref (107), .ref (108), .ref (109), .int (nI (mG T 0)), .int (nI (mG T 1)), .int (nI (mG T 2)), .int (nI (mG T 3)), .int (nI (mG T 4)), .int (1), .int (nI (mG T 6))])) := H.G5 (v := 1)
      refine px (fun _ => pm_aload_n (pc := 162) d_Mo_node_162 rfl) ?_
      refine px (fun _ => pm_getf fl_Mo_57 (pc := 163) d_Mo_node_163 H_13.1 rfl) ?_
      refine pxb (fun _ => pm_if_eq (pc := 166) (tgt := 171) d_Mo_node_166 (by decide)) (fun c_14 => absurd c_14 (fun q => absurd (show nI 1 = 0 from q) (by decide))) (fun c_14 => ?_)
      refine px (fun _ => pm_iconst (v := 0) (pc := 169) d_Mo_node_169 rfl) ?_
      exact pxr (pm_iret (pc := 170) d_Mo_node_170 rfl rfl) ⟨rfl, H_13, (mFr.set _ _ (by omega))⟩
    · have n_c_10 : ¬ ((m_ar k) ≤ 2) := fun zq => c_10 ((nI_leI (a := (m_ar k)) (b := 2) (by omega) (by omega)).mpr zq)
      refine px (fun _ => pm_aload_n (pc := 110) d_Mo_node_110 rfl) ?_
      refine px (fun _ => pm_iload (pc := 111) d_Mo_node_111 rfl) ?_
      refine px (fun _ => k_Mo_node_113 (kc1 := 0) (ks1 := 0) (kc := 0) (ks := 0) (av := [.int (c)]) (st := []) H.1 (m_ns_n hl H (fun q => hc (Or.inr ⟨by omega, q⟩))) rfl rfl (Nat.le_of_ble_eq_true rfl)) ?_
      refine pxb (fun _ => pm_if_eq (pc := 116) (tgt := 132) d_Mo_node_116 (by decide)) (fun c_15 => absurd c_15 (by decide)) (fun c_15 => ?_)
      refine px (fun _ => pm_goto (tgt := 128) (pc := 119) d_Mo_node_119 (by decide)) ?_
      refine px (fun _ => pm_iconst (v := 1) (pc := 128) d_Mo_node_128 rfl) ?_
      refine px (fun _ => pm_goto (tgt := 133) (pc := 129) d_Mo_node_129 (by decide)) ?_
      refine px (fun _ => pm_istore (lv' := [(8, .int (1)), (0, .ref (95)), (1, .int (nI k)), (2, .int (a)), (3, .int (b)), (4, .int (c)), (5, .int (nI j)), (6, .int (p)), (7, .int (q))]) (pc := 133) d_Mo_node_133 (by decide) rfl) ?_
      refine px (fun _ => pm_aload_n (pc := 135) d_Mo_node_135 rfl) ?_
      refine px (fun _ => pm_iload (pc := 136) d_Mo_node_136 rfl) ?_
      refine pxb (fun _ => pm_if_eq (pc := 138) (tgt := 145) d_Mo_node_138 (by decide)) (fun c_16 => absurd c_16 (by decide)) (fun c_16 => ?_)
      refine px (fun _ => pm_iconst (v := 1) (pc := 141) d_Mo_node_141 rfl) ?_
      refine px (fun _ => pm_goto (tgt := 159) (pc := 142) d_Mo_node_142 (by decide)) ?_
      refine px (fun _ => pm_putfC (c' := pm_Ob 4 [.ref (96), .ref (97), .ref (98), .ref (99), .ref (100), .ref (101), .ref (102), .ref (103), .ref (104), .ref (105), .ref (106), .ref (107), .ref (108), .ref (109), .int (nI (mG T 0)), .int (nI (mG T 1)), .int (nI (mG T 2)), .int (nI (mG T 3)), .int (nI (mG T 4)), .int (1), .int (nI (mG T 6))]) fp_Mo_57 (pc := 159) d_Mo_node_159 H.1 (Nat.le_of_ble_eq_true rfl) rfl rfl rfl) ?_
      have H_17 : mH (msG T 5 1) (h.set (95) (pm_Ob 4 [.ref (96), .ref (97), .ref (98), .ref (99), .ref (100), .ref (101), .ref (102), .ref (103), .ref (104), .ref (105), .ref (106), .ref (107), .ref (108), .ref (109), .int (nI (mG T 0)), .int (nI (mG T 1)), .int (nI (mG T 2)), .int (nI (mG T 3)), .int (nI (mG T 4)), .int (1), .int (nI (mG T 6))])) := H.G5 (v := 1)
      refine px (fun _ => pm_aload_n (pc := 162) d_Mo_node_162 rfl) ?_
      refine px (fun _ => pm_getf fl_Mo_57 (pc := 163) d_Mo_node_163 H_17.1 rfl) ?_
      refine pxb (fun _ => pm_if_eq (pc := 166) (tgt := 171) d_Mo_node_166 (by decide)) (fun c_18 => absurd c_18 (fun q => absurd (show nI 1 = 0 from q) (by decide))) (fun c_18 => ?_)
      refine px (fun _ => pm_iconst (v := 0) (pc := 169) d_Mo_node_169 rfl) ?_
      exact pxr (pm_iret (pc := 170) d_Mo_node_170 rfl rfl) ⟨rfl, H_17, (mFr.set _ _ (by omega))⟩
  · have n_c_8 : ¬ ((m_ar k) ≤ 1) := fun zq => c_8 ((nI_leI (a := (m_ar k)) (b := 1) (by omega) (by omega)).mpr zq)
    refine px (fun _ => pm_aload_n (pc := 85) d_Mo_node_85 rfl) ?_
    refine px (fun _ => pm_iload_n (pc := 86) d_Mo_node_86 rfl) ?_
    refine px (fun _ => k_Mo_node_87 (kc1 := 0) (ks1 := 0) (kc := 0) (ks := 0) (av := [.int (b)]) (st := []) H.1 (m_ns_s hl H (hb.resolve_left (fun q => by omega)).2) rfl rfl (Nat.le_of_ble_eq_true rfl)) ?_
    refine pxb (fun _ => pm_if_eq (pc := 90) (tgt := 101) d_Mo_node_90 (by decide)) (fun c_19 => ?_) (fun c_19 => absurd (by decide) c_19)
    refine px (fun _ => pm_aload_n (pc := 101) d_Mo_node_101 rfl) ?_
    refine px (fun _ => pm_iload_n (pc := 102) d_Mo_node_102 rfl) ?_
    refine px (fun _ => k_Mo_node_103 (kc1 := 0) (ks1 := 0) (kc := 0) (ks := 0) (av := [.int (nI k)]) (st := []) H.1 (m_arity hl H hk) rfl rfl (Nat.le_of_ble_eq_true rfl)) ?_
    refine px (fun _ => pm_iconst (v := 2) (pc := 106) d_Mo_node_106 rfl) ?_
    refine pxb (fun _ => pm_icmp_le (pc := 107) (tgt := 122) d_Mo_node_107 (by decide)) (fun c_20 => ?_) (fun c_20 => ?_)
    · have n_c_20 : (m_ar k) ≤ 2 := (nI_leI (a := (m_ar k)) (b := 2) (by omega) (by omega)).mp c_20
      refine px (fun _ => pm_iload (pc := 122) d_Mo_node_122 rfl) ?_
      refine px (fun _ => pm_iconst (v := -1) (pc := 124) d_Mo_node_124 rfl) ?_
      refine pxb (fun _ => pm_icmp_eq (pc := 125) (tgt := 132) d_Mo_node_125 (by decide)) (fun c_21 => absurd c_21 (fun q => hc (Or.inl ⟨by omega, q⟩))) (fun c_21 => ?_)
      refine px (fun _ => pm_iconst (v := 1) (pc := 128) d_Mo_node_128 rfl) ?_
      refine px (fun _ => pm_goto (tgt := 133) (pc := 129) d_Mo_node_129 (by decide)) ?_
      refine px (fun _ => pm_istore (lv' := [(8, .int (1)), (0, .ref (95)), (1, .int (nI k)), (2, .int (a)), (3, .int (b)), (4, .int (c)), (5, .int (nI j)), (6, .int (p)), (7, .int (q))]) (pc := 133) d_Mo_node_133 (by decide) rfl) ?_
      refine px (fun _ => pm_aload_n (pc := 135) d_Mo_node_135 rfl) ?_
      refine px (fun _ => pm_iload (pc := 136) d_Mo_node_136 rfl) ?_
      refine pxb (fun _ => pm_if_eq (pc := 138) (tgt := 145) d_Mo_node_138 (by decide)) (fun c_22 => absurd c_22 (by decide)) (fun c_22 => ?_)
      refine px (fun _ => pm_iconst (v := 1) (pc := 141) d_Mo_node_141 rfl) ?_
      refine px (fun _ => pm_goto (tgt := 159) (pc := 142) d_Mo_node_142 (by decide)) ?_
      refine px (fun _ => pm_putfC (c' := pm_Ob 4 [.ref (96), .ref (97), .ref (98), .ref (99), .ref (100), .ref (101), .ref (102), .ref (103), .ref (104), .ref (105), .ref (106), .ref (107), .ref (108), .ref (109), .int (nI (mG T 0)), .int (nI (mG T 1)), .int (nI (mG T 2)), .int (nI (mG T 3)), .int (nI (mG T 4)), .int (1), .int (nI (mG T 6))]) fp_Mo_57 (pc := 159) d_Mo_node_159 H.1 (Nat.le_of_ble_eq_true rfl) rfl rfl rfl) ?_
      have H_23 : mH (msG T 5 1) (h.set (95) (pm_Ob 4 [.ref (96), .ref (97), .ref (98), .ref (99), .ref (100), .ref (101), .ref (102), .ref (103), .ref (104), .ref (105), .ref (106), .ref (107), .ref (108), .ref (109), .int (nI (mG T 0)), .int (nI (mG T 1)), .int (nI (mG T 2)), .int (nI (mG T 3)), .int (nI (mG T 4)), .int (1), .int (nI (mG T 6))])) := H.G5 (v := 1)
      refine px (fun _ => pm_aload_n (pc := 162) d_Mo_node_162 rfl) ?_
      refine px (fun _ => pm_getf fl_Mo_57 (pc := 163) d_Mo_node_163 H_23.1 rfl) ?_
      refine pxb (fun _ => pm_if_eq (pc := 166) (tgt := 171) d_Mo_node_166 (by decide)) (fun c_24 => absurd c_24 (fun q => absurd (show nI 1 = 0 from q) (by decide))) (fun c_24 => ?_)
      refine px (fun _ => pm_iconst (v := 0) (pc := 169) d_Mo_node_169 rfl) ?_
      exact pxr (pm_iret (pc := 170) d_Mo_node_170 rfl rfl) ⟨rfl, H_23, (mFr.set _ _ (by omega))⟩
    · have n_c_20 : ¬ ((m_ar k) ≤ 2) := fun zq => c_20 ((nI_leI (a := (m_ar k)) (b := 2) (by omega) (by omega)).mpr zq)
      refine px (fun _ => pm_aload_n (pc := 110) d_Mo_node_110 rfl) ?_
      refine px (fun _ => pm_iload (pc := 111) d_Mo_node_111 rfl) ?_
      refine px (fun _ => k_Mo_node_113 (kc1 := 0) (ks1 := 0) (kc := 0) (ks := 0) (av := [.int (c)]) (st := []) H.1 (m_ns_n hl H (fun q => hc (Or.inr ⟨by omega, q⟩))) rfl rfl (Nat.le_of_ble_eq_true rfl)) ?_
      refine pxb (fun _ => pm_if_eq (pc := 116) (tgt := 132) d_Mo_node_116 (by decide)) (fun c_25 => absurd c_25 (by decide)) (fun c_25 => ?_)
      refine px (fun _ => pm_goto (tgt := 128) (pc := 119) d_Mo_node_119 (by decide)) ?_
      refine px (fun _ => pm_iconst (v := 1) (pc := 128) d_Mo_node_128 rfl) ?_
      refine px (fun _ => pm_goto (tgt := 133) (pc := 129) d_Mo_node_129 (by decide)) ?_
      refine px (fun _ => pm_istore (lv' := [(8, .int (1)), (0, .ref (95)), (1, .int (nI k)), (2, .int (a)), (3, .int (b)), (4, .int (c)), (5, .int (nI j)), (6, .int (p)), (7, .int (q))]) (pc := 133) d_Mo_node_133 (by decide) rfl) ?_
      refine px (fun _ => pm_aload_n (pc := 135) d_Mo_node_135 rfl) ?_
      refine px (fun _ => pm_iload (pc := 136) d_Mo_node_136 rfl) ?_
      refine pxb (fun _ => pm_if_eq (pc := 138) (tgt := 145) d_Mo_node_138 (by decide)) (fun c_26 => absurd c_26 (by decide)) (fun c_26 => ?_)
      refine px (fun _ => pm_iconst (v := 1) (pc := 141) d_Mo_node_141 rfl) ?_
      refine px (fun _ => pm_goto (tgt := 159) (pc := 142) d_Mo_node_142 (by decide)) ?_
      refine px (fun _ => pm_putfC (c' := pm_Ob 4 [.ref (96), .ref (97), .ref (98), .ref (99), .ref (100), .ref (101), .ref (102), .ref (103), .ref (104), .ref (105), .ref (106), .ref (107), .ref (108), .ref (109), .int (nI (mG T 0)), .int (nI (mG T 1)), .int (nI (mG T 2)), .int (nI (mG T 3)), .int (nI (mG T 4)), .int (1), .int (nI (mG T 6))]) fp_Mo_57 (pc := 159) d_Mo_node_159 H.1 (Nat.le_of_ble_eq_true rfl) rfl rfl rfl) ?_
      have H_27 : mH (msG T 5 1) (h.set (95) (pm_Ob 4 [.ref (96), .ref (97), .ref (98), .ref (99), .ref (100), .ref (101), .ref (102), .ref (103), .ref (104), .ref (105), .ref (106), .ref (107), .ref (108), .ref (109), .int (nI (mG T 0)), .int (nI (mG T 1)), .int (nI (mG T 2)), .int (nI (mG T 3)), .int (nI (mG T 4)), .int (1), .int (nI (mG T 6))])) := H.G5 (v := 1)
      refine px (fun _ => pm_aload_n (pc := 162) d_Mo_node_162 rfl) ?_
      refine px (fun _ => pm_getf fl_Mo_57 (pc := 163) d_Mo_node_163 H_27.1 rfl) ?_
      refine pxb (fun _ => pm_if_eq (pc := 166) (tgt := 171) d_Mo_node_166 (by decide)) (fun c_28 => absurd c_28 (fun q => absurd (show nI 1 = 0 from q) (by decide))) (fun c_28 => ?_)
      refine px (fun _ => pm_iconst (v := 0) (pc := 169) d_Mo_node_169 rfl) ?_
      exact pxr (pm_iret (pc := 170) d_Mo_node_170 rfl rfl) ⟨rfl, H_27, (mFr.set _ _ (by omega))⟩
set_option maxHeartbeats 1000000 in
set_option maxRecDepth 20000 in
theorem m_node_full {l : Launch} {G : pm_G} {fi : Bool} {h : pm_H} {T : mS} {k j : Nat} {a b c p q : Int32} (hl : l.stackTraces = false) (H : mH T h) (hk : k < 19) (hj : j < 20) (hp : ¬ p < -8 ∧ ¬ 8 < p)(hq : ¬ q < -8 ∧ ¬ 8 < q) (ha : gSl a) (hf : mA T 0 j = 0) (hb : m_ar k < 2 ∧ b = -1 ∨ ¬ m_ar k < 2 ∧ gSl b) (hc : m_ar k < 3 ∧ c = -1 ∨ ¬ m_ar k < 3 ∧ gSl c) (hn : mG T 0 = 14) : pm_Cn l G fi fi 0 0 M_Mo_node [.ref (95), .int (nI k), .int (a), .int (b), .int (c), .int (nI j), .int (p), .int (q)] h (m_P (some (.int 0)) (msG T 5 2) h) := by
  refine pm_Cn.of hl (by decide) (Nat.le_of_ble_eq_true rfl) ?_
  have mk : m_ar k ≤ 3 := by unfold m_ar; (repeat' split) <;> omega
  refine px (fun _ => pm_aload_n (pc := 0) d_Mo_node_0 rfl) ?_
  refine px (fun _ => pm_iload_n (pc := 1) d_Mo_node_1 rfl) ?_
  refine px (fun _ => pm_iconst (v := 0) (pc := 2) d_Mo_node_2 rfl) ?_
  refine px (fun _ => pm_bipush (v := 18) (pc := 3) d_Mo_node_3 rfl) ?_
  refine px (fun _ => k_Mo_node_5 (kc1 := 0) (ks1 := 0) (kc := 0) (ks := 0) (av := [.int (nI k), .int (0), .int (18)]) (st := []) H.1 (m_out_in hl H (g_nin (n := k) (lo := 0) (hi := 18) (by omega) (by omega) (by omega)).1 (g_nin (n := k) (lo := 0) (hi := 18) (by omega) (by omega) (by omega)).2) rfl rfl (Nat.le_of_ble_eq_true rfl)) ?_
  refine pxn (fun _ => pm_if_ne (pc := 8) (tgt := 54) d_Mo_node_8 (by decide)) (fun c_1 => absurd (by decide) c_1) (fun c_1 => ?_)
  refine px (fun _ => pm_aload_n (pc := 11) d_Mo_node_11 rfl) ?_
  refine px (fun _ => pm_iload (pc := 12) d_Mo_node_12 rfl) ?_
  refine px (fun _ => k_Mo_node_14 (kc1 := 0) (ks1 := 0) (kc := 0) (ks := 0) (av := [.int (nI j)]) (st := []) H.1 (m_ns_in hl H hj) rfl rfl (Nat.le_of_ble_eq_true rfl)) ?_
  refine pxn (fun _ => pm_if_ne (pc := 17) (tgt := 54) d_Mo_node_17 (by decide)) (fun c_2 => absurd (by decide) c_2) (fun c_2 => ?_)
  refine px (fun _ => pm_aload_n (pc := 20) d_Mo_node_20 rfl) ?_
  refine px (fun _ => pm_iload (pc := 21) d_Mo_node_21 rfl) ?_
  refine px (fun _ => pm_bipush (v := -8) (pc := 23) d_Mo_node_23 rfl) ?_
  refine px (fun _ => pm_bipush (v := 8) (pc := 25) d_Mo_node_25 rfl) ?_
  refine px (fun _ => k_Mo_node_27 (kc1 := 0) (ks1 := 0) (kc := 0) (ks := 0) (av := [.int (p), .int (-8), .int (8)]) (st := []) H.1 (m_out_in hl H hp.1 hp.2) rfl rfl (Nat.le_of_ble_eq_true rfl)) ?_
  refine pxn (fun _ => pm_if_ne (pc := 30) (tgt := 54) d_Mo_node_30 (by decide)) (fun c_3 => absurd (by decide) c_3) (fun c_3 => ?_)
  refine px (fun _ => pm_aload_n (pc := 33) d_Mo_node_33 rfl) ?_
  refine px (fun _ => pm_iload (pc := 34) d_Mo_node_34 rfl) ?_
  refine px (fun _ => pm_bipush (v := -8) (pc := 36) d_Mo_node_36 rfl) ?_
  refine px (fun _ => pm_bipush (v := 8) (pc := 38) d_Mo_node_38 rfl) ?_
  refine px (fun _ => k_Mo_node_40 (kc1 := 0) (ks1 := 0) (kc := 0) (ks := 0) (av := [.int (q), .int (-8), .int (8)]) (st := []) H.1 (m_out_in hl H hq.1 hq.2) rfl rfl (Nat.le_of_ble_eq_true rfl)) ?_
  refine pxn (fun _ => pm_if_ne (pc := 43) (tgt := 54) d_Mo_node_43 (by decide)) (fun c_4 => absurd (by decide) c_4) (fun c_4 => ?_)
  refine px (fun _ => pm_aload_n (pc := 46) d_Mo_node_46 rfl) ?_
  refine px (fun _ => pm_iload_n (pc := 47) d_Mo_node_47 rfl) ?_
  refine px (fun _ => k_Mo_node_48 (kc1 := 0) (ks1 := 0) (kc := 0) (ks := 0) (av := [.int (a)]) (st := []) H.1 (m_ns_s hl H ha) rfl rfl (Nat.le_of_ble_eq_true rfl)) ?_
  refine pxb (fun _ => pm_if_eq (pc := 51) (tgt := 58) d_Mo_node_51 (by decide)) (fun c_5 => ?_) (fun c_5 => absurd (by decide) c_5)
  refine px (fun _ => pm_iconst (v := 0) (pc := 58) d_Mo_node_58 rfl) ?_
  refine px (fun _ => pm_istore (lv' := [(8, .int (0)), (0, .ref (95)), (1, .int (nI k)), (2, .int (a)), (3, .int (b)), (4, .int (c)), (5, .int (nI j)), (6, .int (p)), (7, .int (q))]) (pc := 59) d_Mo_node_59 (by decide) rfl) ?_
  refine px (fun _ => pm_iload (pc := 61) d_Mo_node_61 rfl) ?_
  refine pxn (fun _ => pm_if_ne (pc := 63) (tgt := 135) d_Mo_node_63 (by decide)) (fun c_6 => absurd (by decide) c_6) (fun c_6 => ?_)
  refine px (fun _ => pm_aload_n (pc := 66) d_Mo_node_66 rfl) ?_
  refine px (fun _ => pm_getf fl_Mo_7 (pc := 67) d_Mo_node_67 H.1 rfl) ?_
  refine px (fun _ => pm_iload (pc := 70) d_Mo_node_70 rfl) ?_
  refine px (fun _ => pm_iald (j := j) (pc := 72) d_Mo_node_72 H.2.1 (rfl) (hj) (by decide)) ?_
  refine pxn (fun _ => pm_if_ne (pc := 73) (tgt := 128) d_Mo_node_73 (by decide)) (fun c_7 => absurd (by rw [hf]; rfl) c_7) (fun c_7 => ?_)
  refine px (fun _ => pm_aload_n (pc := 76) d_Mo_node_76 rfl) ?_
  refine px (fun _ => pm_iload_n (pc := 77) d_Mo_node_77 rfl) ?_
  refine px (fun _ => k_Mo_node_78 (kc1 := 0) (ks1 := 0) (kc := 0) (ks := 0) (av := [.int (nI k)]) (st := []) H.1 (m_arity hl H hk) rfl rfl (Nat.le_of_ble_eq_true rfl)) ?_
  refine px (fun _ => pm_iconst (v := 1) (pc := 81) d_Mo_node_81 rfl) ?_
  refine pxb (fun _ => pm_icmp_le (pc := 82) (tgt := 96) d_Mo_node_82 (by decide)) (fun c_8 => ?_) (fun c_8 => ?_)
  · have n_c_8 : (m_ar k) ≤ 1 := (nI_leI (a := (m_ar k)) (b := 1) (by omega) (by omega)).mp c_8
    refine px (fun _ => pm_iload_n (pc := 96) d_Mo_node_96 rfl) ?_
    refine px (fun _ => pm_iconst (v := -1) (pc := 97) d_Mo_node_97 rfl) ?_
    refine pxn (fun _ => pm_icmp_ne (pc := 98) (tgt := 128) d_Mo_node_98 (by decide)) (fun c_9 => absurd ((hb.resolve_right (fun q => q.1 (by omega))).2) c_9) (fun c_9 => ?_)
    refine px (fun _ => pm_aload_n (pc := 101) d_Mo_node_101 rfl) ?_
    refine px (fun _ => pm_iload_n (pc := 102) d_Mo_node_102 rfl) ?_
    refine px (fun _ => k_Mo_node_103 (kc1 := 0) (ks1 := 0) (kc := 0) (ks := 0) (av := [.int (nI k)]) (st := []) H.1 (m_arity hl H hk) rfl rfl (Nat.le_of_ble_eq_true rfl)) ?_
    refine px (fun _ => pm_iconst (v := 2) (pc := 106) d_Mo_node_106 rfl) ?_
    refine pxb (fun _ => pm_icmp_le (pc := 107) (tgt := 122) d_Mo_node_107 (by decide)) (fun c_10 => ?_) (fun c_10 => ?_)
    · have n_c_10 : (m_ar k) ≤ 2 := (nI_leI (a := (m_ar k)) (b := 2) (by omega) (by omega)).mp c_10
      refine px (fun _ => pm_iload (pc := 122) d_Mo_node_122 rfl) ?_
      refine px (fun _ => pm_iconst (v := -1) (pc := 124) d_Mo_node_124 rfl) ?_
      refine pxb (fun _ => pm_icmp_eq (pc := 125) (tgt := 132) d_Mo_node_125 (by decide)) (fun c_11 => ?_) (fun c_11 => absurd ((hc.resolve_right (fun q => q.1 (by omega))).2) c_11)
      refine px (fun _ => pm_iconst (v := 0) (pc := 132) d_Mo_node_132 rfl) ?_
      refine px (fun _ => pm_istore (lv' := [(8, .int (0)), (0, .ref (95)), (1, .int (nI k)), (2, .int (a)), (3, .int (b)), (4, .int (c)), (5, .int (nI j)), (6, .int (p)), (7, .int (q))]) (pc := 133) d_Mo_node_133 (by decide) rfl) ?_
      refine px (fun _ => pm_aload_n (pc := 135) d_Mo_node_135 rfl) ?_
      refine px (fun _ => pm_iload (pc := 136) d_Mo_node_136 rfl) ?_
      refine pxb (fun _ => pm_if_eq (pc := 138) (tgt := 145) d_Mo_node_138 (by decide)) (fun c_12 => ?_) (fun c_12 => absurd (by decide) c_12)
      refine px (fun _ => pm_aload_n (pc := 145) d_Mo_node_145 rfl) ?_
      refine px (fun _ => pm_getf fl_Mo_82 (pc := 146) d_Mo_node_146 H.1 rfl) ?_
      refine px (fun _ => pm_bipush (v := 14) (pc := 149) d_Mo_node_149 rfl) ?_
      refine pxn (fun _ => pm_icmp_ne (pc := 151) (tgt := 158) d_Mo_node_151 (by decide)) (fun c_13 => absurd (by rw [hn]; rfl) c_13) (fun c_13 => ?_)
      refine px (fun _ => pm_iconst (v := 2) (pc := 154) d_Mo_node_154 rfl) ?_
      refine px (fun _ => pm_goto (tgt := 159) (pc := 155) d_Mo_node_155 (by decide)) ?_
      refine px (fun _ => pm_putfC (c' := pm_Ob 4 [.ref (96), .ref (97), .ref (98), .ref (99), .ref (100), .ref (101), .ref (102), .ref (103), .ref (104), .ref (105), .ref (106), .ref (107), .ref (108), .ref (109), .int (nI (mG T 0)), .int (nI (mG T 1)), .int (nI (mG T 2)), .int (nI (mG T 3)), .int (nI (mG T 4)), .int (2), .int (nI (mG T 6))]) fp_Mo_57 (pc := 159) d_Mo_node_159 H.1 (Nat.le_of_ble_eq_true rfl) rfl rfl rfl) ?_
      have H_14 : mH (msG T 5 2) (h.set (95) (pm_Ob 4 [.ref (96), .ref (97), .ref (98), .ref (99), .ref (100), .ref (101), .ref (102), .ref (103), .ref (104), .ref (105), .ref (106), .ref (107), .ref (108), .ref (109), .int (nI (mG T 0)), .int (nI (mG T 1)), .int (nI (mG T 2)), .int (nI (mG T 3)), .int (nI (mG T 4)), .int (2), .int (nI (mG T 6))])) := H.G5 (v := 2)
      refine px (fun _ => pm_aload_n (pc := 162) d_Mo_node_162 rfl) ?_
      refine px (fun _ => pm_getf fl_Mo_57 (pc := 163) d_Mo_node_163 H_14.1 rfl) ?_
      refine pxb (fun _ => pm_if_eq (pc := 166) (tgt := 171) d_Mo_node_166 (by decide)) (fun c_15 => absurd c_15 (fun q => absurd (show nI 2 = 0 from q) (by decide))) (fun c_15 => ?_)
      refine px (fun _ => pm_iconst (v := 0) (pc := 169) d_Mo_node_169 rfl) ?_
      exact pxr (pm_iret (pc := 170) d_Mo_node_170 rfl rfl) ⟨rfl, H_14, (mFr.set _ _ (by omega))⟩
    · have n_c_10 : ¬ ((m_ar k) ≤ 2) := fun zq => c_10 ((nI_leI (a := (m_ar k)) (b := 2) (by omega) (by omega)).mpr zq)
      refine px (fun _ => pm_aload_n (pc := 110) d_Mo_node_110 rfl) ?_
      refine px (fun _ => pm_iload (pc := 111) d_Mo_node_111 rfl) ?_
      refine px (fun _ => k_Mo_node_113 (kc1 := 0) (ks1 := 0) (kc := 0) (ks := 0) (av := [.int (c)]) (st := []) H.1 (m_ns_s hl H (hc.resolve_left (fun q => by omega)).2) rfl rfl (Nat.le_of_ble_eq_true rfl)) ?_
      refine pxb (fun _ => pm_if_eq (pc := 116) (tgt := 132) d_Mo_node_116 (by decide)) (fun c_16 => ?_) (fun c_16 => absurd (by decide) c_16)
      refine px (fun _ => pm_iconst (v := 0) (pc := 132) d_Mo_node_132 rfl) ?_
      refine px (fun _ => pm_istore (lv' := [(8, .int (0)), (0, .ref (95)), (1, .int (nI k)), (2, .int (a)), (3, .int (b)), (4, .int (c)), (5, .int (nI j)), (6, .int (p)), (7, .int (q))]) (pc := 133) d_Mo_node_133 (by decide) rfl) ?_
      refine px (fun _ => pm_aload_n (pc := 135) d_Mo_node_135 rfl) ?_
      refine px (fun _ => pm_iload (pc := 136) d_Mo_node_136 rfl) ?_
      refine pxb (fun _ => pm_if_eq (pc := 138) (tgt := 145) d_Mo_node_138 (by decide)) (fun c_17 => ?_) (fun c_17 => absurd (by decide) c_17)
      refine px (fun _ => pm_aload_n (pc := 145) d_Mo_node_145 rfl) ?_
      refine px (fun _ => pm_getf fl_Mo_82 (pc := 146) d_Mo_node_146 H.1 rfl) ?_
      refine px (fun _ => pm_bipush (v := 14) (pc := 149) d_Mo_node_149 rfl) ?_
      refine pxn (fun _ => pm_icmp_ne (pc := 151) (tgt := 158) d_Mo_node_151 (by decide)) (fun c_18 => absurd (by rw [hn]; rfl) c_18) (fun c_18 => ?_)
      refine px (fun _ => pm_iconst (v := 2) (pc := 154) d_Mo_node_154 rfl) ?_
      refine px (fun _ => pm_goto (tgt := 159) (pc := 155) d_Mo_node_155 (by decide)) ?_
      refine px (fun _ => pm_putfC (c' := pm_Ob 4 [.ref (96), .ref (97), .ref (98), .ref (99), .ref (100), .ref (101), .ref (102), .ref (103), .ref (104), .ref (105), .ref (106), .ref (107), .ref (108), .ref (109), .int (nI (mG T 0)), .int (nI (mG T 1)), .int (nI (mG T 2)), .int (nI (mG T 3)), .int (nI (mG T 4)), .int (2), .int (nI (mG T 6))]) fp_Mo_57 (pc := 159) d_Mo_node_159 H.1 (Nat.le_of_ble_eq_true rfl) rfl rfl rfl) ?_
      have H_19 : mH (msG T 5 2) (h.set (95) (pm_Ob 4 [.ref (96), .ref (97), .ref (98), .ref (99), .ref (100), .ref (101), .ref (102), .ref (103), .ref (104), .ref (105), .ref (106), .ref (107), .ref (108), .ref (109), .int (nI (mG T 0)), .int (nI (mG T 1)), .int (nI (mG T 2)), .int (nI (mG T 3)), .int (nI (mG T 4)), .int (2), .int (nI (mG T 6))])) := H.G5 (v := 2)
      refine px (fun _ => pm_aload_n (pc := 162) d_Mo_node_162 rfl) ?_
      refine px (fun _ => pm_getf fl_Mo_57 (pc := 163) d_Mo_node_163 H_19.1 rfl) ?_
      refine pxb (fun _ => pm_if_eq (pc := 166) (tgt := 171) d_Mo_node_166 (by decide)) (fun c_20 => absurd c_20 (fun q => absurd (show nI 2 = 0 from q) (by decide))) (fun c_20 => ?_)
      refine px (fun _ => pm_iconst (v := 0) (pc := 169) d_Mo_node_169 rfl) ?_
      exact pxr (pm_iret (pc := 170) d_Mo_node_170 rfl rfl) ⟨rfl, H_19, (mFr.set _ _ (by omega))⟩
  · have n_c_8 : ¬ ((m_ar k) ≤ 1) := fun zq => c_8 ((nI_leI (a := (m_ar k)) (b := 1) (by omega) (by omega)).mpr zq)
    refine px (fun _ => pm_aload_n (pc := 85) d_Mo_node_85 rfl) ?_
    refine px (fun _ => pm_iload_n (pc := 86) d_Mo_node_86 rfl) ?_
    refine px (fun _ => k_Mo_node_87 (kc1 := 0) (ks1 := 0) (kc := 0) (ks := 0) (av := [.int (b)]) (st := []) H.1 (m_ns_s hl H (hb.resolve_left (fun q => by omega)).2) rfl rfl (Nat.le_of_ble_eq_true rfl)) ?_
    refine pxb (fun _ => pm_if_eq (pc := 90) (tgt := 101) d_Mo_node_90 (by decide)) (fun c_21 => ?_) (fun c_21 => absurd (by decide) c_21)
    refine px (fun _ => pm_aload_n (pc := 101) d_Mo_node_101 rfl) ?_
    refine px (fun _ => pm_iload_n (pc := 102) d_Mo_node_102 rfl) ?_
    refine px (fun _ => k_Mo_node_103 (kc1 := 0) (ks1 := 0) (kc := 0) (ks := 0) (av := [.int (nI k)]) (st := []) H.1 (m_arity hl H hk) rfl rfl (Nat.le_of_ble_eq_true rfl)) ?_
    refine px (fun _ => pm_iconst (v := 2) (pc := 106) d_Mo_node_106 rfl) ?_
    refine pxb (fun _ => pm_icmp_le (pc := 107) (tgt := 122) d_Mo_node_107 (by decide)) (fun c_22 => ?_) (fun c_22 => ?_)
    · have n_c_22 : (m_ar k) ≤ 2 := (nI_leI (a := (m_ar k)) (b := 2) (by omega) (by omega)).mp c_22
      refine px (fun _ => pm_iload (pc := 122) d_Mo_node_122 rfl) ?_
      refine px (fun _ => pm_iconst (v := -1) (pc := 124) d_Mo_node_124 rfl) ?_
      refine pxb (fun _ => pm_icmp_eq (pc := 125) (tgt := 132) d_Mo_node_125 (by decide)) (fun c_23 => ?_) (fun c_23 => absurd ((hc.resolve_right (fun q => q.1 (by omega))).2) c_23)
      refine px (fun _ => pm_iconst (v := 0) (pc := 132) d_Mo_node_132 rfl) ?_
      refine px (fun _ => pm_istore (lv' := [(8, .int (0)), (0, .ref (95)), (1, .int (nI k)), (2, .int (a)), (3, .int (b)), (4, .int (c)), (5, .int (nI j)), (6, .int (p)), (7, .int (q))]) (pc := 133) d_Mo_node_133 (by decide) rfl) ?_
      refine px (fun _ => pm_aload_n (pc := 135) d_Mo_node_135 rfl) ?_
      refine px (fun _ => pm_iload (pc := 136) d_Mo_node_136 rfl) ?_
      refine pxb (fun _ => pm_if_eq (pc := 138) (tgt := 145) d_Mo_node_138 (by decide)) (fun c_24 => ?_) (fun c_24 => absurd (by decide) c_24)
      refine px (fun _ => pm_aload_n (pc := 145) d_Mo_node_145 rfl) ?_
      refine px (fun _ => pm_getf fl_Mo_82 (pc := 146) d_Mo_node_146 H.1 rfl) ?_
      refine px (fun _ => pm_bipush (v := 14) (pc := 149) d_Mo_node_149 rfl) ?_
      refine pxn (fun _ => pm_icmp_ne (pc := 151) (tgt := 158) d_Mo_node_151 (by decide)) (fun c_25 => absurd (by rw [hn]; rfl) c_25) (fun c_25 => ?_)
      refine px (fun _ => pm_iconst (v := 2) (pc := 154) d_Mo_node_154 rfl) ?_
      refine px (fun _ => pm_goto (tgt := 159) (pc := 155) d_Mo_node_155 (by decide)) ?_
      refine px (fun _ => pm_putfC (c' := pm_Ob 4 [.ref (96), .ref (97), .ref (98), .ref (99), .ref (100), .ref (101), .ref (102), .ref (103), .ref (104), .ref (105), .ref (106), .ref (107), .ref (108), .ref (109), .int (nI (mG T 0)), .int (nI (mG T 1)), .int (nI (mG T 2)), .int (nI (mG T 3)), .int (nI (mG T 4)), .int (2), .int (nI (mG T 6))]) fp_Mo_57 (pc := 159) d_Mo_node_159 H.1 (Nat.le_of_ble_eq_true rfl) rfl rfl rfl) ?_
      have H_26 : mH (msG T 5 2) (h.set (95) (pm_Ob 4 [.ref (96), .ref (97), .ref (98), .ref (99), .ref (100), .ref (101), .ref (102), .ref (103), .ref (104), .ref (105), .ref (106), .ref (107), .ref (108), .ref (109), .int (nI (mG T 0)), .int (nI (mG T 1)), .int (nI (mG T 2)), .int (nI (mG T 3)), .int (nI (mG T 4)), .int (2), .int (nI (mG T 6))])) := H.G5 (v := 2)
      refine px (fun _ => pm_aload_n (pc := 162) d_Mo_node_162 rfl) ?_
      refine px (fun _ => pm_getf fl_Mo_57 (pc := 163) d_Mo_node_163 H_26.1 rfl) ?_
      refine pxb (fun _ => pm_if_eq (pc := 166) (tgt := 171) d_Mo_node_166 (by decide)) (fun c_27 => absurd c_27 (fun q => absurd (show nI 2 = 0 from q) (by decide))) (fun c_27 => ?_)
      refine px (fun _ => pm_iconst (v := 0) (pc := 169) d_Mo_node_169 rfl) ?_
      exact pxr (pm_iret (pc := 170) d_Mo_node_170 rfl rfl) ⟨rfl, H_26, (mFr.set _ _ (by omega))⟩
    · have n_c_22 : ¬ ((m_ar k) ≤ 2) := fun zq => c_22 ((nI_leI (a := (m_ar k)) (b := 2) (by omega) (by omega)).mpr zq)
      refine px (fun _ => pm_aload_n (pc := 110) d_Mo_node_110 rfl) ?_
      refine px (fun _ => pm_iload (pc := 111) d_Mo_node_111 rfl) ?_
      refine px (fun _ => k_Mo_node_113 (kc1 := 0) (ks1 := 0) (kc := 0) (ks := 0) (av := [.int (c)]) (st := []) H.1 (m_ns_s hl H (hc.resolve_left (fun q => by omega)).2) rfl rfl (Nat.le_of_ble_eq_true rfl)) ?_
      refine pxb (fun _ => pm_if_eq (pc := 116) (tgt := 132) d_Mo_node_116 (by decide)) (fun c_28 => ?_) (fun c_28 => absurd (by decide) c_28)
      refine px (fun _ => pm_iconst (v := 0) (pc := 132) d_Mo_node_132 rfl) ?_
      refine px (fun _ => pm_istore (lv' := [(8, .int (0)), (0, .ref (95)), (1, .int (nI k)), (2, .int (a)), (3, .int (b)), (4, .int (c)), (5, .int (nI j)), (6, .int (p)), (7, .int (q))]) (pc := 133) d_Mo_node_133 (by decide) rfl) ?_
      refine px (fun _ => pm_aload_n (pc := 135) d_Mo_node_135 rfl) ?_
      refine px (fun _ => pm_iload (pc := 136) d_Mo_node_136 rfl) ?_
      refine pxb (fun _ => pm_if_eq (pc := 138) (tgt := 145) d_Mo_node_138 (by decide)) (fun c_29 => ?_) (fun c_29 => absurd (by decide) c_29)
      refine px (fun _ => pm_aload_n (pc := 145) d_Mo_node_145 rfl) ?_
      refine px (fun _ => pm_getf fl_Mo_82 (pc := 146) d_Mo_node_146 H.1 rfl) ?_
      refine px (fun _ => pm_bipush (v := 14) (pc := 149) d_Mo_node_149 rfl) ?_
      refine pxn (fun _ => pm_icmp_ne (pc := 151) (tgt := 158) d_Mo_node_151 (by decide)) (fun c_30 => absurd (by rw [hn]; rfl) c_30) (fun c_30 => ?_)
      refine px (fun _ => pm_iconst (v := 2) (pc := 154) d_Mo_node_154 rfl) ?_
      refine px (fun _ => pm_goto (tgt := 159) (pc := 155) d_Mo_node_155 (by decide)) ?_
      refine px (fun _ => pm_putfC (c' := pm_Ob 4 [.ref (96), .ref (97), .ref (98), .ref (99), .ref (100), .ref (101), .ref (102), .ref (103), .ref (104), .ref (105), .ref (106), .ref (107), .ref (108), .ref (109), .int (nI (mG T 0)), .int (nI (mG T 1)), .int (nI (mG T 2)), .int (nI (mG T 3)), .int (nI (mG T 4)), .int (2), .int (nI (mG T 6))]) fp_Mo_57 (pc := 159) d_Mo_node_159 H.1 (Nat.le_of_ble_eq_true rfl) rfl rfl rfl) ?_
      have H_31 : mH (msG T 5 2) (h.set (95) (pm_Ob 4 [.ref (96), .ref (97), .ref (98), .ref (99), .ref (100), .ref (101), .ref (102), .ref (103), .ref (104), .ref (105), .ref (106), .ref (107), .ref (108), .ref (109), .int (nI (mG T 0)), .int (nI (mG T 1)), .int (nI (mG T 2)), .int (nI (mG T 3)), .int (nI (mG T 4)), .int (2), .int (nI (mG T 6))])) := H.G5 (v := 2)
      refine px (fun _ => pm_aload_n (pc := 162) d_Mo_node_162 rfl) ?_
      refine px (fun _ => pm_getf fl_Mo_57 (pc := 163) d_Mo_node_163 H_31.1 rfl) ?_
      refine pxb (fun _ => pm_if_eq (pc := 166) (tgt := 171) d_Mo_node_166 (by decide)) (fun c_32 => absurd c_32 (fun q => absurd (show nI 2 = 0 from q) (by decide))) (fun c_32 => ?_)
      refine px (fun _ => pm_iconst (v := 0) (pc := 169) d_Mo_node_169 rfl) ?_
      exact pxr (pm_iret (pc := 170) d_Mo_node_170 rfl rfl) ⟨rfl, H_31, (mFr.set _ _ (by omega))⟩
theorem m_node_b3 {l : Launch} {G : pm_G} {fi : Bool} {h : pm_H} {T : mS} {k j : Nat} {a b c p q : Int32} (hl : l.stackTraces = false) (H : mH T h) (hk : k < 19) (hj : j < 20) (hk3 : mA T 0 j ≤ 3) (hb : ¬ ((gSl a ∧ (m_ar k < 2 ∧ b = -1 ∨ ¬ m_ar k < 2 ∧ gSl b) ∧ (m_ar k < 3 ∧ c = -1 ∨ ¬ m_ar k < 3 ∧ gSl c)) ∧ mA T 0 j = 0 ∧ (¬ p < -8 ∧ ¬ 8 < p) ∧ (¬ q < -8 ∧ ¬ 8 < q))) : pm_Cn l G fi fi 0 0 M_Mo_node [.ref 95, .int (nI k), .int a, .int b, .int c, .int (nI j), .int p, .int q] h (m_P (some (.int 0)) (msG T 5 1) h) := by
  by_cases hp : ¬ p < -8 ∧ ¬ 8 < p
  · by_cases hq : ¬ q < -8 ∧ ¬ 8 < q
    · by_cases ha : gSl a
      · by_cases hf : mA T 0 j = 0
        · by_cases h1 : m_ar k < 2 ∧ b = -1 ∨ ¬ m_ar k < 2 ∧ gSl b
          · by_cases h2 : m_ar k < 3 ∧ c = -1 ∨ ¬ m_ar k < 3 ∧ gSl c
            · exact absurd ⟨⟨ha, h1, h2⟩, hf, hp, hq⟩ hb
            · exact m_node_cc hl H hk hj hp hq ha hf h1 h2
          · exact m_node_bb hl H hk hj hp hq ha hf h1
        · exact m_node_k hl H hk hj hp hq ha (fun r => hf ((nI_eq (a := mA T 0 j) (b := 0) (by omega) (by omega)).mp r))
      · exact m_node_a hl H hk hj hp hq ha
    · exact m_node_q hl H hk hj hp hq
  · exact m_node_p hl H hk hj hp
abbrev mnS (T : mS) (k j : Nat) (a b c p q : Int32) : mS := msA (msA (msQ (msQ (msA (msQ (msQ (msQ (msA (msG (msG T 5 0) 0 (mG T 0 + 1)) 6 (mG T 0) k) 12 (mG T 0 * 3) a) 12 (mG T 0 * 3 + 1) b) 12 (mG T 0 * 3 + 2) c) 7 (mG T 0) j) 8 (mG T 0) p) 9 (mG T 0) q) 0 j 3) 4 j (mG T 0)
set_option maxHeartbeats 1000000 in
set_option maxRecDepth 20000 in
theorem m_node_ok {l : Launch} {G : pm_G} {fi : Bool} {h : pm_H} {T : mS} {k j : Nat} {a b c p q : Int32} (hl : l.stackTraces = false) (H : mH T h) (hk : k < 19) (hj : j < 20) (hp : ¬ p < -8 ∧ ¬ 8 < p)(hq : ¬ q < -8 ∧ ¬ 8 < q) (ha : gSl a) (hf : mA T 0 j = 0) (hb : m_ar k < 2 ∧ b = -1 ∨ ¬ m_ar k < 2 ∧ gSl b) (hc : m_ar k < 3 ∧ c = -1 ∨ ¬ m_ar k < 3 ∧ gSl c) (hn : mG T 0 < 14) : pm_Cn l G fi fi 0 0 M_Mo_node [.ref (95), .int (nI k), .int (a), .int (b), .int (c), .int (nI j), .int (p), .int (q)] h (m_P (some (.int (nI (mG T 0)))) (mChg (mnS T k j a b c p q)) h) := by
  refine pm_Cn.of hl (by decide) (Nat.le_of_ble_eq_true rfl) ?_
  have mk : m_ar k ≤ 3 := by unfold m_ar; (repeat' split) <;> omega
  refine px (fun _ => pm_aload_n (pc := 0) d_Mo_node_0 rfl) ?_
  refine px (fun _ => pm_iload_n (pc := 1) d_Mo_node_1 rfl) ?_
  refine px (fun _ => pm_iconst (v := 0) (pc := 2) d_Mo_node_2 rfl) ?_
  refine px (fun _ => pm_bipush (v := 18) (pc := 3) d_Mo_node_3 rfl) ?_
  refine px (fun _ => k_Mo_node_5 (kc1 := 0) (ks1 := 0) (kc := 0) (ks := 0) (av := [.int (nI k), .int (0), .int (18)]) (st := []) H.1 (m_out_in hl H (g_nin (n := k) (lo := 0) (hi := 18) (by omega) (by omega) (by omega)).1 (g_nin (n := k) (lo := 0) (hi := 18) (by omega) (by omega) (by omega)).2) rfl rfl (Nat.le_of_ble_eq_true rfl)) ?_
  refine pxn (fun _ => pm_if_ne (pc := 8) (tgt := 54) d_Mo_node_8 (by decide)) (fun c_1 => absurd (by decide) c_1) (fun c_1 => ?_)
  refine px (fun _ => pm_aload_n (pc := 11) d_Mo_node_11 rfl) ?_
  refine px (fun _ => pm_iload (pc := 12) d_Mo_node_12 rfl) ?_
  refine px (fun _ => k_Mo_node_14 (kc1 := 0) (ks1 := 0) (kc := 0) (ks := 0) (av := [.int (nI j)]) (st := []) H.1 (m_ns_in hl H hj) rfl rfl (Nat.le_of_ble_eq_true rfl)) ?_
  refine pxn (fun _ => pm_if_ne (pc := 17) (tgt := 54) d_Mo_node_17 (by decide)) (fun c_2 => absurd (by decide) c_2) (fun c_2 => ?_)
  refine px (fun _ => pm_aload_n (pc := 20) d_Mo_node_20 rfl) ?_
  refine px (fun _ => pm_iload (pc := 21) d_Mo_node_21 rfl) ?_
  refine px (fun _ => pm_bipush (v := -8) (pc := 23) d_Mo_node_23 rfl) ?_
  refine px (fun _ => pm_bipush (v := 8) (pc := 25) d_Mo_node_25 rfl) ?_
  refine px (fun _ => k_Mo_node_27 (kc1 := 0) (ks1 := 0) (kc := 0) (ks := 0) (av := [.int (p), .int (-8), .int (8)]) (st := []) H.1 (m_out_in hl H hp.1 hp.2) rfl rfl (Nat.le_of_ble_eq_true rfl)) ?_
  refine pxn (fun _ => pm_if_ne (pc := 30) (tgt := 54) d_Mo_node_30 (by decide)) (fun c_3 => absurd (by decide) c_3) (fun c_3 => ?_)
  refine px (fun _ => pm_aload_n (pc := 33) d_Mo_node_33 rfl) ?_
  refine px (fun _ => pm_iload (pc := 34) d_Mo_node_34 rfl) ?_
  refine px (fun _ => pm_bipush (v := -8) (pc := 36) d_Mo_node_36 rfl) ?_
  refine px (fun _ => pm_bipush (v := 8) (pc := 38) d_Mo_node_38 rfl) ?_
  refine px (fun _ => k_Mo_node_40 (kc1 := 0) (ks1 := 0) (kc := 0) (ks := 0) (av := [.int (q), .int (-8), .int (8)]) (st := []) H.1 (m_out_in hl H hq.1 hq.2) rfl rfl (Nat.le_of_ble_eq_true rfl)) ?_
  refine pxn (fun _ => pm_if_ne (pc := 43) (tgt := 54) d_Mo_node_43 (by decide)) (fun c_4 => absurd (by decide) c_4) (fun c_4 => ?_)
  refine px (fun _ => pm_aload_n (pc := 46) d_Mo_node_46 rfl) ?_
  refine px (fun _ => pm_iload_n (pc := 47) d_Mo_node_47 rfl) ?_
  refine px (fun _ => k_Mo_node_48 (kc1 := 0) (ks1 := 0) (kc := 0) (ks := 0) (av := [.int (a)]) (st := []) H.1 (m_ns_s hl H ha) rfl rfl (Nat.le_of_ble_eq_true rfl)) ?_
  refine pxb (fun _ => pm_if_eq (pc := 51) (tgt := 58) d_Mo_node_51 (by decide)) (fun c_5 => ?_) (fun c_5 => absurd (by decide) c_5)
  refine px (fun _ => pm_iconst (v := 0) (pc := 58) d_Mo_node_58 rfl) ?_
  refine px (fun _ => pm_istore (lv' := [(8, .int (0)), (0, .ref (95)), (1, .int (nI k)), (2, .int (a)), (3, .int (b)), (4, .int (c)), (5, .int (nI j)), (6, .int (p)), (7, .int (q))]) (pc := 59) d_Mo_node_59 (by decide) rfl) ?_
  refine px (fun _ => pm_iload (pc := 61) d_Mo_node_61 rfl) ?_
  refine pxn (fun _ => pm_if_ne (pc := 63) (tgt := 135) d_Mo_node_63 (by decide)) (fun c_6 => absurd (by decide) c_6) (fun c_6 => ?_)
  refine px (fun _ => pm_aload_n (pc := 66) d_Mo_node_66 rfl) ?_
  refine px (fun _ => pm_getf fl_Mo_7 (pc := 67) d_Mo_node_67 H.1 rfl) ?_
  refine px (fun _ => pm_iload (pc := 70) d_Mo_node_70 rfl) ?_
  refine px (fun _ => pm_iald (j := j) (pc := 72) d_Mo_node_72 H.2.1 (rfl) (hj) (by decide)) ?_
  refine pxn (fun _ => pm_if_ne (pc := 73) (tgt := 128) d_Mo_node_73 (by decide)) (fun c_7 => absurd (by rw [hf]; rfl) c_7) (fun c_7 => ?_)
  refine px (fun _ => pm_aload_n (pc := 76) d_Mo_node_76 rfl) ?_
  refine px (fun _ => pm_iload_n (pc := 77) d_Mo_node_77 rfl) ?_
  refine px (fun _ => k_Mo_node_78 (kc1 := 0) (ks1 := 0) (kc := 0) (ks := 0) (av := [.int (nI k)]) (st := []) H.1 (m_arity hl H hk) rfl rfl (Nat.le_of_ble_eq_true rfl)) ?_
  refine px (fun _ => pm_iconst (v := 1) (pc := 81) d_Mo_node_81 rfl) ?_
  refine pxb (fun _ => pm_icmp_le (pc := 82) (tgt := 96) d_Mo_node_82 (by decide)) (fun c_8 => ?_) (fun c_8 => ?_)
  · have n_c_8 : (m_ar k) ≤ 1 := (nI_leI (a := (m_ar k)) (b := 1) (by omega) (by omega)).mp c_8
    refine px (fun _ => pm_iload_n (pc := 96) d_Mo_node_96 rfl) ?_
    refine px (fun _ => pm_iconst (v := -1) (pc := 97) d_Mo_node_97 rfl) ?_
    refine pxn (fun _ => pm_icmp_ne (pc := 98) (tgt := 128) d_Mo_node_98 (by decide)) (fun c_9 => absurd ((hb.resolve_right (fun q => q.1 (by omega))).2) c_9) (fun c_9 => ?_)
    refine px (fun _ => pm_aload_n (pc := 101) d_Mo_node_101 rfl) ?_
    refine px (fun _ => pm_iload_n (pc := 102) d_Mo_node_102 rfl) ?_
    refine px (fun _ => k_Mo_node_103 (kc1 := 0) (ks1 := 0) (kc := 0) (ks := 0) (av := [.int (nI k)]) (st := []) H.1 (m_arity hl H hk) rfl rfl (Nat.le_of_ble_eq_true rfl)) ?_
    refine px (fun _ => pm_iconst (v := 2) (pc := 106) d_Mo_node_106 rfl) ?_
    refine pxb (fun _ => pm_icmp_le (pc := 107) (tgt := 122) d_Mo_node_107 (by decide)) (fun c_10 => ?_) (fun c_10 => ?_)
    · have n_c_10 : (m_ar k) ≤ 2 := (nI_leI (a := (m_ar k)) (b := 2) (by omega) (by omega)).mp c_10
      refine px (fun _ => pm_iload (pc := 122) d_Mo_node_122 rfl) ?_
      refine px (fun _ => pm_iconst (v := -1) (pc := 124) d_Mo_node_124 rfl) ?_
      refine pxb (fun _ => pm_icmp_eq (pc := 125) (tgt := 132) d_Mo_node_125 (by decide)) (fun c_11 => ?_) (fun c_11 => absurd ((hc.resolve_right (fun q => q.1 (by omega))).2) c_11)
      refine px (fun _ => pm_iconst (v := 0) (pc := 132) d_Mo_node_132 rfl) ?_
      refine px (fun _ => pm_istore (lv' := [(8, .int (0)), (0, .ref (95)), (1, .int (nI k)), (2, .int (a)), (3, .int (b)), (4, .int (c)), (5, .int (nI j)), (6, .int (p)), (7, .int (q))]) (pc := 133) d_Mo_node_133 (by decide) rfl) ?_
      refine px (fun _ => pm_aload_n (pc := 135) d_Mo_node_135 rfl) ?_
      refine px (fun _ => pm_iload (pc := 136) d_Mo_node_136 rfl) ?_
      refine pxb (fun _ => pm_if_eq (pc := 138) (tgt := 145) d_Mo_node_138 (by decide)) (fun c_12 => ?_) (fun c_12 => absurd (by decide) c_12)
      refine px (fun _ => pm_aload_n (pc := 145) d_Mo_node_145 rfl) ?_
      refine px (fun _ => pm_getf fl_Mo_82 (pc := 146) d_Mo_node_146 H.1 rfl) ?_
      refine px (fun _ => pm_bipush (v := 14) (pc := 149) d_Mo_node_149 rfl) ?_
      refine pxn (fun _ => pm_icmp_ne (pc := 151) (tgt := 158) d_Mo_node_151 (by decide)) (fun c_13 => ?_) (fun c_13 => absurd c_13 (fun q => absurd ((nI_eq (a := mG T 0) (b := 14) (by omega) (by omega)).mp q) (by omega)))
      refine px (fun _ => pm_iconst (v := 0) (pc := 158) d_Mo_node_158 rfl) ?_
      refine px (fun _ => pm_putfC (c' := pm_Ob 4 [.ref (96), .ref (97), .ref (98), .ref (99), .ref (100), .ref (101), .ref (102), .ref (103), .ref (104), .ref (105), .ref (106), .ref (107), .ref (108), .ref (109), .int (nI (mG T 0)), .int (nI (mG T 1)), .int (nI (mG T 2)), .int (nI (mG T 3)), .int (nI (mG T 4)), .int (0), .int (nI (mG T 6))]) fp_Mo_57 (pc := 159) d_Mo_node_159 H.1 (Nat.le_of_ble_eq_true rfl) rfl rfl rfl) ?_
      have H_14 : mH (msG T 5 0) (h.set (95) (pm_Ob 4 [.ref (96), .ref (97), .ref (98), .ref (99), .ref (100), .ref (101), .ref (102), .ref (103), .ref (104), .ref (105), .ref (106), .ref (107), .ref (108), .ref (109), .int (nI (mG T 0)), .int (nI (mG T 1)), .int (nI (mG T 2)), .int (nI (mG T 3)), .int (nI (mG T 4)), .int (0), .int (nI (mG T 6))])) := H.G5 (v := 0)
      refine px (fun _ => pm_aload_n (pc := 162) d_Mo_node_162 rfl) ?_
      refine px (fun _ => pm_getf fl_Mo_57 (pc := 163) d_Mo_node_163 H_14.1 rfl) ?_
      refine pxb (fun _ => pm_if_eq (pc := 166) (tgt := 171) d_Mo_node_166 (by decide)) (fun c_15 => ?_) (fun c_15 => absurd (rfl) c_15)
      refine px (fun _ => pm_aload_n (pc := 171) d_Mo_node_171 rfl) ?_
      refine px (fun _ => pm_dup (pc := 172) d_Mo_node_172 rfl) ?_
      refine px (fun _ => pm_getf fl_Mo_82 (pc := 173) d_Mo_node_173 H_14.1 rfl) ?_
      refine px (fun _ => pm_dup_x1 (pc := 176) d_Mo_node_176 rfl rfl) ?_
      refine px (fun _ => pm_iconst (v := 1) (pc := 177) d_Mo_node_177 rfl) ?_
      refine px (fun _ => pm_iaddN (a := (mG (msG T 5 0) 0)) (b := 1) (pc := 178) d_Mo_node_178) ?_
      refine px (fun _ => pm_putfC (c' := pm_Ob 4 [.ref (96), .ref (97), .ref (98), .ref (99), .ref (100), .ref (101), .ref (102), .ref (103), .ref (104), .ref (105), .ref (106), .ref (107), .ref (108), .ref (109), .int (nI ((mG (msG T 5 0) 0) + 1)), .int (nI (mG (msG T 5 0) 1)), .int (nI (mG (msG T 5 0) 2)), .int (nI (mG (msG T 5 0) 3)), .int (nI (mG (msG T 5 0) 4)), .int (nI (mG (msG T 5 0) 5)), .int (nI (mG (msG T 5 0) 6))]) fp_Mo_82 (pc := 179) d_Mo_node_179 H_14.1 (Nat.le_of_ble_eq_true rfl) rfl rfl rfl) ?_
      have H_16 : mH (msG (msG T 5 0) 0 (mG T 0 + 1)) ((h.set (95) (pm_Ob 4 [.ref (96), .ref (97), .ref (98), .ref (99), .ref (100), .ref (101), .ref (102), .ref (103), .ref (104), .ref (105), .ref (106), .ref (107), .ref (108), .ref (109), .int (nI (mG T 0)), .int (nI (mG T 1)), .int (nI (mG T 2)), .int (nI (mG T 3)), .int (nI (mG T 4)), .int (0), .int (nI (mG T 6))])).set (95) (pm_Ob 4 [.ref (96), .ref (97), .ref (98), .ref (99), .ref (100), .ref (101), .ref (102), .ref (103), .ref (104), .ref (105), .ref (106), .ref (107), .ref (108), .ref (109), .int (nI ((mG (msG T 5 0) 0) + 1)), .int (nI (mG (msG T 5 0) 1)), .int (nI (mG (msG T 5 0) 2)), .int (nI (mG (msG T 5 0) 3)), .int (nI (mG (msG T 5 0) 4)), .int (nI (mG (msG T 5 0) 5)), .int (nI (mG (msG T 5 0) 6))])) := H_14.G0 (v := mG T 0 + 1)
      refine px (fun _ => pm_istore (lv' := [(9, .int (nI (mG (msG T 5 0) 0))), (8, .int (0)), (0, .ref (95)), (1, .int (nI k)), (2, .int (a)), (3, .int (b)), (4, .int (c)), (5, .int (nI j)), (6, .int (p)), (7, .int (q))]) (pc := 182) d_Mo_node_182 (by decide) rfl) ?_
      refine px (fun _ => pm_aload_n (pc := 184) d_Mo_node_184 rfl) ?_
      refine px (fun _ => pm_getf fl_Mo_29 (pc := 185) d_Mo_node_185 H_16.1 rfl) ?_
      refine px (fun _ => pm_iload (pc := 188) d_Mo_node_188 rfl) ?_
      refine px (fun _ => pm_iload_n (pc := 190) d_Mo_node_190 rfl) ?_
      refine px (fun _ => pm_iast (j := mG T 0) (pc := 191) d_Mo_node_191 H_16.2.2.2.2.2.2.2.1 (rfl) (hn) (by decide)) ?_
      have H_17 : mH (msA (msG (msG T 5 0) 0 (mG T 0 + 1)) 6 (mG T 0) k) (((h.set (95) (pm_Ob 4 [.ref (96), .ref (97), .ref (98), .ref (99), .ref (100), .ref (101), .ref (102), .ref (103), .ref (104), .ref (105), .ref (106), .ref (107), .ref (108), .ref (109), .int (nI (mG T 0)), .int (nI (mG T 1)), .int (nI (mG T 2)), .int (nI (mG T 3)), .int (nI (mG T 4)), .int (0), .int (nI (mG T 6))])).set (95) (pm_Ob 4 [.ref (96), .ref (97), .ref (98), .ref (99), .ref (100), .ref (101), .ref (102), .ref (103), .ref (104), .ref (105), .ref (106), .ref (107), .ref (108), .ref (109), .int (nI ((mG (msG T 5 0) 0) + 1)), .int (nI (mG (msG T 5 0) 1)), .int (nI (mG (msG T 5 0) 2)), .int (nI (mG (msG T 5 0) 3)), .int (nI (mG (msG T 5 0) 4)), .int (nI (mG (msG T 5 0) 5)), .int (nI (mG (msG T 5 0) 6))])).set (102) (pm_I 14 (va_up (fun j => nI (mA (msG (msG T 5 0) 0 (mG T 0 + 1)) 6 j)) (mG T 0) (nI k)))) := H_16.A6 (j := mG T 0) (v := k)
      refine px (fun _ => pm_aload_n (pc := 192) d_Mo_node_192 rfl) ?_
      refine px (fun _ => pm_getf fl_Mo_47 (pc := 193) d_Mo_node_193 H_17.1 rfl) ?_
      refine px (fun _ => pm_iload (pc := 196) d_Mo_node_196 rfl) ?_
      refine px (fun _ => pm_iconst (v := 3) (pc := 198) d_Mo_node_198 rfl) ?_
      refine px (fun _ => pm_imulN (a := (mG (msG T 5 0) 0)) (b := 3) (pc := 199) d_Mo_node_199) ?_
      refine px (fun _ => pm_iload_n (pc := 200) d_Mo_node_200 rfl) ?_
      refine px (fun _ => pm_iast (j := mG T 0 * 3) (pc := 201) d_Mo_node_201 H_17.2.2.2.2.2.2.2.2.2.2.2.2.2.1 (rfl) (by omega) (by decide)) ?_
      have H_18 : mH (msQ (msA (msG (msG T 5 0) 0 (mG T 0 + 1)) 6 (mG T 0) k) 12 (mG T 0 * 3) a) ((((h.set (95) (pm_Ob 4 [.ref (96), .ref (97), .ref (98), .ref (99), .ref (100), .ref (101), .ref (102), .ref (103), .ref (104), .ref (105), .ref (106), .ref (107), .ref (108), .ref (109), .int (nI (mG T 0)), .int (nI (mG T 1)), .int (nI (mG T 2)), .int (nI (mG T 3)), .int (nI (mG T 4)), .int (0), .int (nI (mG T 6))])).set (95) (pm_Ob 4 [.ref (96), .ref (97), .ref (98), .ref (99), .ref (100), .ref (101), .ref (102), .ref (103), .ref (104), .ref (105), .ref (106), .ref (107), .ref (108), .ref (109), .int (nI ((mG (msG T 5 0) 0) + 1)), .int (nI (mG (msG T 5 0) 1)), .int (nI (mG (msG T 5 0) 2)), .int (nI (mG (msG T 5 0) 3)), .int (nI (mG (msG T 5 0) 4)), .int (nI (mG (msG T 5 0) 5)), .int (nI (mG (msG T 5 0) 6))])).set (102) (pm_I 14 (va_up (fun j => nI (mA (msG (msG T 5 0) 0 (mG T 0 + 1)) 6 j)) (mG T 0) (nI k)))).set (108) (pm_I 42 (va_up (mQ (msA (msG (msG T 5 0) 0 (mG T 0 + 1)) 6 (mG T 0) k) 12) (mG T 0 * 3) (a)))) := H_17.Q12 (j := mG T 0 * 3) (v := a)
      refine px (fun _ => pm_aload_n (pc := 202) d_Mo_node_202 rfl) ?_
      refine px (fun _ => pm_getf fl_Mo_47 (pc := 203) d_Mo_node_203 H_18.1 rfl) ?_
      refine px (fun _ => pm_iload (pc := 206) d_Mo_node_206 rfl) ?_
      refine px (fun _ => pm_iconst (v := 3) (pc := 208) d_Mo_node_208 rfl) ?_
      refine px (fun _ => pm_imulN (a := (mG (msG T 5 0) 0)) (b := 3) (pc := 209) d_Mo_node_209) ?_
      refine px (fun _ => pm_iconst (v := 1) (pc := 210) d_Mo_node_210 rfl) ?_
      refine px (fun _ => pm_iaddN (a := ((mG (msG T 5 0) 0) * 3)) (b := 1) (pc := 211) d_Mo_node_211) ?_
      refine px (fun _ => pm_iload_n (pc := 212) d_Mo_node_212 rfl) ?_
      refine px (fun _ => pm_iast (j := mG T 0 * 3 + 1) (pc := 213) d_Mo_node_213 H_18.2.2.2.2.2.2.2.2.2.2.2.2.2.1 (rfl) (by omega) (by decide)) ?_
      have H_19 : mH (msQ (msQ (msA (msG (msG T 5 0) 0 (mG T 0 + 1)) 6 (mG T 0) k) 12 (mG T 0 * 3) a) 12 (mG T 0 * 3 + 1) b) (((((h.set (95) (pm_Ob 4 [.ref (96), .ref (97), .ref (98), .ref (99), .ref (100), .ref (101), .ref (102), .ref (103), .ref (104), .ref (105), .ref (106), .ref (107), .ref (108), .ref (109), .int (nI (mG T 0)), .int (nI (mG T 1)), .int (nI (mG T 2)), .int (nI (mG T 3)), .int (nI (mG T 4)), .int (0), .int (nI (mG T 6))])).set (95) (pm_Ob 4 [.ref (96), .ref (97), .ref (98), .ref (99), .ref (100), .ref (101), .ref (102), .ref (103), .ref (104), .ref (105), .ref (106), .ref (107), .ref (108), .ref (109), .int (nI ((mG (msG T 5 0) 0) + 1)), .int (nI (mG (msG T 5 0) 1)), .int (nI (mG (msG T 5 0) 2)), .int (nI (mG (msG T 5 0) 3)), .int (nI (mG (msG T 5 0) 4)), .int (nI (mG (msG T 5 0) 5)), .int (nI (mG (msG T 5 0) 6))])).set (102) (pm_I 14 (va_up (fun j => nI (mA (msG (msG T 5 0) 0 (mG T 0 + 1)) 6 j)) (mG T 0) (nI k)))).set (108) (pm_I 42 (va_up (mQ (msA (msG (msG T 5 0) 0 (mG T 0 + 1)) 6 (mG T 0) k) 12) (mG T 0 * 3) (a)))).set (108) (pm_I 42 (va_up (mQ (msQ (msA (msG (msG T 5 0) 0 (mG T 0 + 1)) 6 (mG T 0) k) 12 (mG T 0 * 3) a) 12) (mG T 0 * 3 + 1) (b)))) := H_18.Q12 (j := mG T 0 * 3 + 1) (v := b)
      refine px (fun _ => pm_aload_n (pc := 214) d_Mo_node_214 rfl) ?_
      refine px (fun _ => pm_getf fl_Mo_47 (pc := 215) d_Mo_node_215 H_19.1 rfl) ?_
      refine px (fun _ => pm_iload (pc := 218) d_Mo_node_218 rfl) ?_
      refine px (fun _ => pm_iconst (v := 3) (pc := 220) d_Mo_node_220 rfl) ?_
      refine px (fun _ => pm_imulN (a := (mG (msG T 5 0) 0)) (b := 3) (pc := 221) d_Mo_node_221) ?_
      refine px (fun _ => pm_iconst (v := 2) (pc := 222) d_Mo_node_222 rfl) ?_
      refine px (fun _ => pm_iaddN (a := ((mG (msG T 5 0) 0) * 3)) (b := 2) (pc := 223) d_Mo_node_223) ?_
      refine px (fun _ => pm_iload (pc := 224) d_Mo_node_224 rfl) ?_
      refine px (fun _ => pm_iast (j := mG T 0 * 3 + 2) (pc := 226) d_Mo_node_226 H_19.2.2.2.2.2.2.2.2.2.2.2.2.2.1 (rfl) (by omega) (by decide)) ?_
      have H_20 : mH (msQ (msQ (msQ (msA (msG (msG T 5 0) 0 (mG T 0 + 1)) 6 (mG T 0) k) 12 (mG T 0 * 3) a) 12 (mG T 0 * 3 + 1) b) 12 (mG T 0 * 3 + 2) c) ((((((h.set (95) (pm_Ob 4 [.ref (96), .ref (97), .ref (98), .ref (99), .ref (100), .ref (101), .ref (102), .ref (103), .ref (104), .ref (105), .ref (106), .ref (107), .ref (108), .ref (109), .int (nI (mG T 0)), .int (nI (mG T 1)), .int (nI (mG T 2)), .int (nI (mG T 3)), .int (nI (mG T 4)), .int (0), .int (nI (mG T 6))])).set (95) (pm_Ob 4 [.ref (96), .ref (97), .ref (98), .ref (99), .ref (100), .ref (101), .ref (102), .ref (103), .ref (104), .ref (105), .ref (106), .ref (107), .ref (108), .ref (109), .int (nI ((mG (msG T 5 0) 0) + 1)), .int (nI (mG (msG T 5 0) 1)), .int (nI (mG (msG T 5 0) 2)), .int (nI (mG (msG T 5 0) 3)), .int (nI (mG (msG T 5 0) 4)), .int (nI (mG (msG T 5 0) 5)), .int (nI (mG (msG T 5 0) 6))])).set (102) (pm_I 14 (va_up (fun j => nI (mA (msG (msG T 5 0) 0 (mG T 0 + 1)) 6 j)) (mG T 0) (nI k)))).set (108) (pm_I 42 (va_up (mQ (msA (msG (msG T 5 0) 0 (mG T 0 + 1)) 6 (mG T 0) k) 12) (mG T 0 * 3) (a)))).set (108) (pm_I 42 (va_up (mQ (msQ (msA (msG (msG T 5 0) 0 (mG T 0 + 1)) 6 (mG T 0) k) 12 (mG T 0 * 3) a) 12) (mG T 0 * 3 + 1) (b)))).set (108) (pm_I 42 (va_up (mQ (msQ (msQ (msA (msG (msG T 5 0) 0 (mG T 0 + 1)) 6 (mG T 0) k) 12 (mG T 0 * 3) a) 12 (mG T 0 * 3 + 1) b) 12) (mG T 0 * 3 + 2) (c)))) := H_19.Q12 (j := mG T 0 * 3 + 2) (v := c)
      refine px (fun _ => pm_aload_n (pc := 227) d_Mo_node_227 rfl) ?_
      refine px (fun _ => pm_getf fl_Mo_32 (pc := 228) d_Mo_node_228 H_20.1 rfl) ?_
      refine px (fun _ => pm_iload (pc := 231) d_Mo_node_231 rfl) ?_
      refine px (fun _ => pm_iload (pc := 233) d_Mo_node_233 rfl) ?_
      refine px (fun _ => pm_iast (j := mG T 0) (pc := 235) d_Mo_node_235 H_20.2.2.2.2.2.2.2.2.1 (rfl) (hn) (by decide)) ?_
      have H_21 : mH (msA (msQ (msQ (msQ (msA (msG (msG T 5 0) 0 (mG T 0 + 1)) 6 (mG T 0) k) 12 (mG T 0 * 3) a) 12 (mG T 0 * 3 + 1) b) 12 (mG T 0 * 3 + 2) c) 7 (mG T 0) j) (((((((h.set (95) (pm_Ob 4 [.ref (96), .ref (97), .ref (98), .ref (99), .ref (100), .ref (101), .ref (102), .ref (103), .ref (104), .ref (105), .ref (106), .ref (107), .ref (108), .ref (109), .int (nI (mG T 0)), .int (nI (mG T 1)), .int (nI (mG T 2)), .int (nI (mG T 3)), .int (nI (mG T 4)), .int (0), .int (nI (mG T 6))])).set (95) (pm_Ob 4 [.ref (96), .ref (97), .ref (98), .ref (99), .ref (100), .ref (101), .ref (102), .ref (103), .ref (104), .ref (105), .ref (106), .ref (107), .ref (108), .ref (109), .int (nI ((mG (msG T 5 0) 0) + 1)), .int (nI (mG (msG T 5 0) 1)), .int (nI (mG (msG T 5 0) 2)), .int (nI (mG (msG T 5 0) 3)), .int (nI (mG (msG T 5 0) 4)), .int (nI (mG (msG T 5 0) 5)), .int (nI (mG (msG T 5 0) 6))])).set (102) (pm_I 14 (va_up (fun j => nI (mA (msG (msG T 5 0) 0 (mG T 0 + 1)) 6 j)) (mG T 0) (nI k)))).set (108) (pm_I 42 (va_up (mQ (msA (msG (msG T 5 0) 0 (mG T 0 + 1)) 6 (mG T 0) k) 12) (mG T 0 * 3) (a)))).set (108) (pm_I 42 (va_up (mQ (msQ (msA (msG (msG T 5 0) 0 (mG T 0 + 1)) 6 (mG T 0) k) 12 (mG T 0 * 3) a) 12) (mG T 0 * 3 + 1) (b)))).set (108) (pm_I 42 (va_up (mQ (msQ (msQ (msA (msG (msG T 5 0) 0 (mG T 0 + 1)) 6 (mG T 0) k) 12 (mG T 0 * 3) a) 12 (mG T 0 * 3 + 1) b) 12) (mG T 0 * 3 + 2) (c)))).set (103) (pm_I 14 (va_up (fun j => nI (mA (msQ (msQ (msQ (msA (msG (msG T 5 0) 0 (mG T 0 + 1)) 6 (mG T 0) k) 12 (mG T 0 * 3) a) 12 (mG T 0 * 3 + 1) b) 12 (mG T 0 * 3 + 2) c) 7 j)) (mG T 0) (nI j)))) := H_20.A7 (j := mG T 0) (v := j)
      refine px (fun _ => pm_aload_n (pc := 236) d_Mo_node_236 rfl) ?_
      refine px (fun _ => pm_getf fl_Mo_35 (pc := 237) d_Mo_node_237 H_21.1 rfl) ?_
      refine px (fun _ => pm_iload (pc := 240) d_Mo_node_240 rfl) ?_
      refine px (fun _ => pm_iload (pc := 242) d_Mo_node_242 rfl) ?_
      refine px (fun _ => pm_iast (j := mG T 0) (pc := 244) d_Mo_node_244 H_21.2.2.2.2.2.2.2.2.2.1 (rfl) (hn) (by decide)) ?_
      have H_22 : mH (msQ (msA (msQ (msQ (msQ (msA (msG (msG T 5 0) 0 (mG T 0 + 1)) 6 (mG T 0) k) 12 (mG T 0 * 3) a) 12 (mG T 0 * 3 + 1) b) 12 (mG T 0 * 3 + 2) c) 7 (mG T 0) j) 8 (mG T 0) p) ((((((((h.set (95) (pm_Ob 4 [.ref (96), .ref (97), .ref (98), .ref (99), .ref (100), .ref (101), .ref (102), .ref (103), .ref (104), .ref (105), .ref (106), .ref (107), .ref (108), .ref (109), .int (nI (mG T 0)), .int (nI (mG T 1)), .int (nI (mG T 2)), .int (nI (mG T 3)), .int (nI (mG T 4)), .int (0), .int (nI (mG T 6))])).set (95) (pm_Ob 4 [.ref (96), .ref (97), .ref (98), .ref (99), .ref (100), .ref (101), .ref (102), .ref (103), .ref (104), .ref (105), .ref (106), .ref (107), .ref (108), .ref (109), .int (nI ((mG (msG T 5 0) 0) + 1)), .int (nI (mG (msG T 5 0) 1)), .int (nI (mG (msG T 5 0) 2)), .int (nI (mG (msG T 5 0) 3)), .int (nI (mG (msG T 5 0) 4)), .int (nI (mG (msG T 5 0) 5)), .int (nI (mG (msG T 5 0) 6))])).set (102) (pm_I 14 (va_up (fun j => nI (mA (msG (msG T 5 0) 0 (mG T 0 + 1)) 6 j)) (mG T 0) (nI k)))).set (108) (pm_I 42 (va_up (mQ (msA (msG (msG T 5 0) 0 (mG T 0 + 1)) 6 (mG T 0) k) 12) (mG T 0 * 3) (a)))).set (108) (pm_I 42 (va_up (mQ (msQ (msA (msG (msG T 5 0) 0 (mG T 0 + 1)) 6 (mG T 0) k) 12 (mG T 0 * 3) a) 12) (mG T 0 * 3 + 1) (b)))).set (108) (pm_I 42 (va_up (mQ (msQ (msQ (msA (msG (msG T 5 0) 0 (mG T 0 + 1)) 6 (mG T 0) k) 12 (mG T 0 * 3) a) 12 (mG T 0 * 3 + 1) b) 12) (mG T 0 * 3 + 2) (c)))).set (103) (pm_I 14 (va_up (fun j => nI (mA (msQ (msQ (msQ (msA (msG (msG T 5 0) 0 (mG T 0 + 1)) 6 (mG T 0) k) 12 (mG T 0 * 3) a) 12 (mG T 0 * 3 + 1) b) 12 (mG T 0 * 3 + 2) c) 7 j)) (mG T 0) (nI j)))).set (104) (pm_I 14 (va_up (mQ (msA (msQ (msQ (msQ (msA (msG (msG T 5 0) 0 (mG T 0 + 1)) 6 (mG T 0) k) 12 (mG T 0 * 3) a) 12 (mG T 0 * 3 + 1) b) 12 (mG T 0 * 3 + 2) c) 7 (mG T 0) j) 8) (mG T 0) (p)))) := H_21.Q8 (j := mG T 0) (v := p)
      refine px (fun _ => pm_aload_n (pc := 245) d_Mo_node_245 rfl) ?_
      refine px (fun _ => pm_getf fl_Mo_38 (pc := 246) d_Mo_node_246 H_22.1 rfl) ?_
      refine px (fun _ => pm_iload (pc := 249) d_Mo_node_249 rfl) ?_
      refine px (fun _ => pm_iload (pc := 251) d_Mo_node_251 rfl) ?_
      refine px (fun _ => pm_iast (j := mG T 0) (pc := 253) d_Mo_node_253 H_22.2.2.2.2.2.2.2.2.2.2.1 (rfl) (hn) (by decide)) ?_
      have H_23 : mH (msQ (msQ (msA (msQ (msQ (msQ (msA (msG (msG T 5 0) 0 (mG T 0 + 1)) 6 (mG T 0) k) 12 (mG T 0 * 3) a) 12 (mG T 0 * 3 + 1) b) 12 (mG T 0 * 3 + 2) c) 7 (mG T 0) j) 8 (mG T 0) p) 9 (mG T 0) q) (((((((((h.set (95) (pm_Ob 4 [.ref (96), .ref (97), .ref (98), .ref (99), .ref (100), .ref (101), .ref (102), .ref (103), .ref (104), .ref (105), .ref (106), .ref (107), .ref (108), .ref (109), .int (nI (mG T 0)), .int (nI (mG T 1)), .int (nI (mG T 2)), .int (nI (mG T 3)), .int (nI (mG T 4)), .int (0), .int (nI (mG T 6))])).set (95) (pm_Ob 4 [.ref (96), .ref (97), .ref (98), .ref (99), .ref (100), .ref (101), .ref (102), .ref (103), .ref (104), .ref (105), .ref (106), .ref (107), .ref (108), .ref (109), .int (nI ((mG (msG T 5 0) 0) + 1)), .int (nI (mG (msG T 5 0) 1)), .int (nI (mG (msG T 5 0) 2)), .int (nI (mG (msG T 5 0) 3)), .int (nI (mG (msG T 5 0) 4)), .int (nI (mG (msG T 5 0) 5)), .int (nI (mG (msG T 5 0) 6))])).set (102) (pm_I 14 (va_up (fun j => nI (mA (msG (msG T 5 0) 0 (mG T 0 + 1)) 6 j)) (mG T 0) (nI k)))).set (108) (pm_I 42 (va_up (mQ (msA (msG (msG T 5 0) 0 (mG T 0 + 1)) 6 (mG T 0) k) 12) (mG T 0 * 3) (a)))).set (108) (pm_I 42 (va_up (mQ (msQ (msA (msG (msG T 5 0) 0 (mG T 0 + 1)) 6 (mG T 0) k) 12 (mG T 0 * 3) a) 12) (mG T 0 * 3 + 1) (b)))).set (108) (pm_I 42 (va_up (mQ (msQ (msQ (msA (msG (msG T 5 0) 0 (mG T 0 + 1)) 6 (mG T 0) k) 12 (mG T 0 * 3) a) 12 (mG T 0 * 3 + 1) b) 12) (mG T 0 * 3 + 2) (c)))).set (103) (pm_I 14 (va_up (fun j => nI (mA (msQ (msQ (msQ (msA (msG (msG T 5 0) 0 (mG T 0 + 1)) 6 (mG T 0) k) 12 (mG T 0 * 3) a) 12 (mG T 0 * 3 + 1) b) 12 (mG T 0 * 3 + 2) c) 7 j)) (mG T 0) (nI j)))).set (104) (pm_I 14 (va_up (mQ (msA (msQ (msQ (msQ (msA (msG (msG T 5 0) 0 (mG T 0 + 1)) 6 (mG T 0) k) 12 (mG T 0 * 3) a) 12 (mG T 0 * 3 + 1) b) 12 (mG T 0 * 3 + 2) c) 7 (mG T 0) j) 8) (mG T 0) (p)))).set (105) (pm_I 14 (va_up (mQ (msQ (msA (msQ (msQ (msQ (msA (msG (msG T 5 0) 0 (mG T 0 + 1)) 6 (mG T 0) k) 12 (mG T 0 * 3) a) 12 (mG T 0 * 3 + 1) b) 12 (mG T 0 * 3 + 2) c) 7 (mG T 0) j) 8 (mG T 0) p) 9) (mG T 0) (q)))) := H_22.Q9 (j := mG T 0) (v := q)
      refine px (fun _ => pm_aload_n (pc := 254) d_Mo_node_254 rfl) ?_
      refine px (fun _ => pm_getf fl_Mo_7 (pc := 255) d_Mo_node_255 H_23.1 rfl) ?_
      refine px (fun _ => pm_iload (pc := 258) d_Mo_node_258 rfl) ?_
      refine px (fun _ => pm_iconst (v := 3) (pc := 260) d_Mo_node_260 rfl) ?_
      refine px (fun _ => pm_iast (j := j) (pc := 261) d_Mo_node_261 H_23.2.1 (rfl) (hj) (by decide)) ?_
      have H_24 : mH (msA (msQ (msQ (msA (msQ (msQ (msQ (msA (msG (msG T 5 0) 0 (mG T 0 + 1)) 6 (mG T 0) k) 12 (mG T 0 * 3) a) 12 (mG T 0 * 3 + 1) b) 12 (mG T 0 * 3 + 2) c) 7 (mG T 0) j) 8 (mG T 0) p) 9 (mG T 0) q) 0 j 3) ((((((((((h.set (95) (pm_Ob 4 [.ref (96), .ref (97), .ref (98), .ref (99), .ref (100), .ref (101), .ref (102), .ref (103), .ref (104), .ref (105), .ref (106), .ref (107), .ref (108), .ref (109), .int (nI (mG T 0)), .int (nI (mG T 1)), .int (nI (mG T 2)), .int (nI (mG T 3)), .int (nI (mG T 4)), .int (0), .int (nI (mG T 6))])).set (95) (pm_Ob 4 [.ref (96), .ref (97), .ref (98), .ref (99), .ref (100), .ref (101), .ref (102), .ref (103), .ref (104), .ref (105), .ref (106), .ref (107), .ref (108), .ref (109), .int (nI ((mG (msG T 5 0) 0) + 1)), .int (nI (mG (msG T 5 0) 1)), .int (nI (mG (msG T 5 0) 2)), .int (nI (mG (msG T 5 0) 3)), .int (nI (mG (msG T 5 0) 4)), .int (nI (mG (msG T 5 0) 5)), .int (nI (mG (msG T 5 0) 6))])).set (102) (pm_I 14 (va_up (fun j => nI (mA (msG (msG T 5 0) 0 (mG T 0 + 1)) 6 j)) (mG T 0) (nI k)))).set (108) (pm_I 42 (va_up (mQ (msA (msG (msG T 5 0) 0 (mG T 0 + 1)) 6 (mG T 0) k) 12) (mG T 0 * 3) (a)))).set (108) (pm_I 42 (va_up (mQ (msQ (msA (msG (msG T 5 0) 0 (mG T 0 + 1)) 6 (mG T 0) k) 12 (mG T 0 * 3) a) 12) (mG T 0 * 3 + 1) (b)))).set (108) (pm_I 42 (va_up (mQ (msQ (msQ (msA (msG (msG T 5 0) 0 (mG T 0 + 1)) 6 (mG T 0) k) 12 (mG T 0 * 3) a) 12 (mG T 0 * 3 + 1) b) 12) (mG T 0 * 3 + 2) (c)))).set (103) (pm_I 14 (va_up (fun j => nI (mA (msQ (msQ (msQ (msA (msG (msG T 5 0) 0 (mG T 0 + 1)) 6 (mG T 0) k) 12 (mG T 0 * 3) a) 12 (mG T 0 * 3 + 1) b) 12 (mG T 0 * 3 + 2) c) 7 j)) (mG T 0) (nI j)))).set (104) (pm_I 14 (va_up (mQ (msA (msQ (msQ (msQ (msA (msG (msG T 5 0) 0 (mG T 0 + 1)) 6 (mG T 0) k) 12 (mG T 0 * 3) a) 12 (mG T 0 * 3 + 1) b) 12 (mG T 0 * 3 + 2) c) 7 (mG T 0) j) 8) (mG T 0) (p)))).set (105) (pm_I 14 (va_up (mQ (msQ (msA (msQ (msQ (msQ (msA (msG (msG T 5 0) 0 (mG T 0 + 1)) 6 (mG T 0) k) 12 (mG T 0 * 3) a) 12 (mG T 0 * 3 + 1) b) 12 (mG T 0 * 3 + 2) c) 7 (mG T 0) j) 8 (mG T 0) p) 9) (mG T 0) (q)))).set (96) (pm_I 20 (va_up (fun j => nI (mA (msQ (msQ (msA (msQ (msQ (msQ (msA (msG (msG T 5 0) 0 (mG T 0 + 1)) 6 (mG T 0) k) 12 (mG T 0 * 3) a) 12 (mG T 0 * 3 + 1) b) 12 (mG T 0 * 3 + 2) c) 7 (mG T 0) j) 8 (mG T 0) p) 9 (mG T 0) q) 0 j)) (j) (3)))) := H_23.A0 (j := j) (v := 3)
      refine px (fun _ => pm_aload_n (pc := 262) d_Mo_node_262 rfl) ?_
      refine px (fun _ => pm_getf fl_Mo_22 (pc := 263) d_Mo_node_263 H_24.1 rfl) ?_
      refine px (fun _ => pm_iload (pc := 266) d_Mo_node_266 rfl) ?_
      refine px (fun _ => pm_iload (pc := 268) d_Mo_node_268 rfl) ?_
      refine px (fun _ => pm_iast (j := j) (pc := 270) d_Mo_node_270 H_24.2.2.2.2.2.1 (rfl) (hj) (by decide)) ?_
      have H_25 : mH (msA (msA (msQ (msQ (msA (msQ (msQ (msQ (msA (msG (msG T 5 0) 0 (mG T 0 + 1)) 6 (mG T 0) k) 12 (mG T 0 * 3) a) 12 (mG T 0 * 3 + 1) b) 12 (mG T 0 * 3 + 2) c) 7 (mG T 0) j) 8 (mG T 0) p) 9 (mG T 0) q) 0 j 3) 4 j (mG T 0)) (((((((((((h.set (95) (pm_Ob 4 [.ref (96), .ref (97), .ref (98), .ref (99), .ref (100), .ref (101), .ref (102), .ref (103), .ref (104), .ref (105), .ref (106), .ref (107), .ref (108), .ref (109), .int (nI (mG T 0)), .int (nI (mG T 1)), .int (nI (mG T 2)), .int (nI (mG T 3)), .int (nI (mG T 4)), .int (0), .int (nI (mG T 6))])).set (95) (pm_Ob 4 [.ref (96), .ref (97), .ref (98), .ref (99), .ref (100), .ref (101), .ref (102), .ref (103), .ref (104), .ref (105), .ref (106), .ref (107), .ref (108), .ref (109), .int (nI ((mG (msG T 5 0) 0) + 1)), .int (nI (mG (msG T 5 0) 1)), .int (nI (mG (msG T 5 0) 2)), .int (nI (mG (msG T 5 0) 3)), .int (nI (mG (msG T 5 0) 4)), .int (nI (mG (msG T 5 0) 5)), .int (nI (mG (msG T 5 0) 6))])).set (102) (pm_I 14 (va_up (fun j => nI (mA (msG (msG T 5 0) 0 (mG T 0 + 1)) 6 j)) (mG T 0) (nI k)))).set (108) (pm_I 42 (va_up (mQ (msA (msG (msG T 5 0) 0 (mG T 0 + 1)) 6 (mG T 0) k) 12) (mG T 0 * 3) (a)))).set (108) (pm_I 42 (va_up (mQ (msQ (msA (msG (msG T 5 0) 0 (mG T 0 + 1)) 6 (mG T 0) k) 12 (mG T 0 * 3) a) 12) (mG T 0 * 3 + 1) (b)))).set (108) (pm_I 42 (va_up (mQ (msQ (msQ (msA (msG (msG T 5 0) 0 (mG T 0 + 1)) 6 (mG T 0) k) 12 (mG T 0 * 3) a) 12 (mG T 0 * 3 + 1) b) 12) (mG T 0 * 3 + 2) (c)))).set (103) (pm_I 14 (va_up (fun j => nI (mA (msQ (msQ (msQ (msA (msG (msG T 5 0) 0 (mG T 0 + 1)) 6 (mG T 0) k) 12 (mG T 0 * 3) a) 12 (mG T 0 * 3 + 1) b) 12 (mG T 0 * 3 + 2) c) 7 j)) (mG T 0) (nI j)))).set (104) (pm_I 14 (va_up (mQ (msA (msQ (msQ (msQ (msA (msG (msG T 5 0) 0 (mG T 0 + 1)) 6 (mG T 0) k) 12 (mG T 0 * 3) a) 12 (mG T 0 * 3 + 1) b) 12 (mG T 0 * 3 + 2) c) 7 (mG T 0) j) 8) (mG T 0) (p)))).set (105) (pm_I 14 (va_up (mQ (msQ (msA (msQ (msQ (msQ (msA (msG (msG T 5 0) 0 (mG T 0 + 1)) 6 (mG T 0) k) 12 (mG T 0 * 3) a) 12 (mG T 0 * 3 + 1) b) 12 (mG T 0 * 3 + 2) c) 7 (mG T 0) j) 8 (mG T 0) p) 9) (mG T 0) (q)))).set (96) (pm_I 20 (va_up (fun j => nI (mA (msQ (msQ (msA (msQ (msQ (msQ (msA (msG (msG T 5 0) 0 (mG T 0 + 1)) 6 (mG T 0) k) 12 (mG T 0 * 3) a) 12 (mG T 0 * 3 + 1) b) 12 (mG T 0 * 3 + 2) c) 7 (mG T 0) j) 8 (mG T 0) p) 9 (mG T 0) q) 0 j)) (j) (3)))).set (100) (pm_I 20 (va_up (fun j => nI (mA (msA (msQ (msQ (msA (msQ (msQ (msQ (msA (msG (msG T 5 0) 0 (mG T 0 + 1)) 6 (mG T 0) k) 12 (mG T 0 * 3) a) 12 (mG T 0 * 3 + 1) b) 12 (mG T 0 * 3 + 2) c) 7 (mG T 0) j) 8 (mG T 0) p) 9 (mG T 0) q) 0 j 3) 4 j)) (j) (nI (mG (msG T 5 0) 0))))) := H_24.A4 (j := j) (v := mG T 0)
      refine px (fun _ => pm_aload_n (pc := 271) d_Mo_node_271 rfl) ?_
      obtain ⟨⟨o26, h26⟩, ⟨e26, H26, F26⟩, en26⟩ := m_change (l := l) (G := G) (fi := fi) (T := msA (msA (msQ (msQ (msA (msQ (msQ (msQ (msA (msG (msG T 5 0) 0 (mG T 0 + 1)) 6 (mG T 0) k) 12 (mG T 0 * 3) a) 12 (mG T 0 * 3 + 1) b) 12 (mG T 0 * 3 + 2) c) 7 (mG T 0) j) 8 (mG T 0) p) 9 (mG T 0) q) 0 j 3) 4 j (mG T 0)) hl H_25
      dsimp only at e26 H26 F26
      subst e26
      refine px (fun _ => k_Mo_node_272 (kc1 := 0) (ks1 := 0) (kc := 0) (ks := 0) (av := []) (st := []) H_25.1 (en26) rfl rfl (Nat.le_of_ble_eq_true rfl)) ?_
      refine px (fun _ => pm_iload (pc := 275) d_Mo_node_275 rfl) ?_
      exact pxr (pm_iret (pc := 277) d_Mo_node_277 rfl rfl) ⟨rfl, H26, ((mFr.set _ _ (by omega))).tr (((mFr.set _ _ (by omega))).tr (((mFr.set _ _ (by omega))).tr (((mFr.set _ _ (by omega))).tr (((mFr.set _ _ (by omega))).tr (((mFr.set _ _ (by omega))).tr (((mFr.set _ _ (by omega))).tr (((mFr.set _ _ (by omega))).tr (((mFr.set _ _ (by omega))).tr (((mFr.set _ _ (by omega))).tr (((mFr.set _ _ (by omega))).tr (F26)))))))))))⟩
    · have n_c_10 : ¬ ((m_ar k) ≤ 2) := fun zq => c_10 ((nI_leI (a := (m_ar k)) (b := 2) (by omega) (by omega)).mpr zq)
      refine px (fun _ => pm_aload_n (pc := 110) d_Mo_node_110 rfl) ?_
      refine px (fun _ => pm_iload (pc := 111) d_Mo_node_111 rfl) ?_
      refine px (fun _ => k_Mo_node_113 (kc1 := 0) (ks1 := 0) (kc := 0) (ks := 0) (av := [.int (c)]) (st := []) H.1 (m_ns_s hl H (hc.resolve_left (fun q => by omega)).2) rfl rfl (Nat.le_of_ble_eq_true rfl)) ?_
      refine pxb (fun _ => pm_if_eq (pc := 116) (tgt := 132) d_Mo_node_116 (by decide)) (fun c_27 => ?_) (fun c_27 => absurd (by decide) c_27)
      refine px (fun _ => pm_iconst (v := 0) (pc := 132) d_Mo_node_132 rfl) ?_
      refine px (fun _ => pm_istore (lv' := [(8, .int (0)), (0, .ref (95)), (1, .int (nI k)), (2, .int (a)), (3, .int (b)), (4, .int (c)), (5, .int (nI j)), (6, .int (p)), (7, .int (q))]) (pc := 133) d_Mo_node_133 (by decide) rfl) ?_
      refine px (fun _ => pm_aload_n (pc := 135) d_Mo_node_135 rfl) ?_
      refine px (fun _ => pm_iload (pc := 136) d_Mo_node_136 rfl) ?_
      refine pxb (fun _ => pm_if_eq (pc := 138) (tgt := 145) d_Mo_node_138 (by decide)) (fun c_28 => ?_) (fun c_28 => absurd (by decide) c_28)
      refine px (fun _ => pm_aload_n (pc := 145) d_Mo_node_145 rfl) ?_
      refine px (fun _ => pm_getf fl_Mo_82 (pc := 146) d_Mo_node_146 H.1 rfl) ?_
      refine px (fun _ => pm_bipush (v := 14) (pc := 149) d_Mo_node_149 rfl) ?_
      refine pxn (fun _ => pm_icmp_ne (pc := 151) (tgt := 158) d_Mo_node_151 (by decide)) (fun c_29 => ?_) (fun c_29 => absurd c_29 (fun q => absurd ((nI_eq (a := mG T 0) (b := 14) (by omega) (by omega)).mp q) (by omega)))
      refine px (fun _ => pm_iconst (v := 0) (pc := 158) d_Mo_node_158 rfl) ?_
      refine px (fun _ => pm_putfC (c' := pm_Ob 4 [.ref (96), .ref (97), .ref (98), .ref (99), .ref (100), .ref (101), .ref (102), .ref (103), .ref (104), .ref (105), .ref (106), .ref (107), .ref (108), .ref (109), .int (nI (mG T 0)), .int (nI (mG T 1)), .int (nI (mG T 2)), .int (nI (mG T 3)), .int (nI (mG T 4)), .int (0), .int (nI (mG T 6))]) fp_Mo_57 (pc := 159) d_Mo_node_159 H.1 (Nat.le_of_ble_eq_true rfl) rfl rfl rfl) ?_
      have H_30 : mH (msG T 5 0) (h.set (95) (pm_Ob 4 [.ref (96), .ref (97), .ref (98), .ref (99), .ref (100), .ref (101), .ref (102), .ref (103), .ref (104), .ref (105), .ref (106), .ref (107), .ref (108), .ref (109), .int (nI (mG T 0)), .int (nI (mG T 1)), .int (nI (mG T 2)), .int (nI (mG T 3)), .int (nI (mG T 4)), .int (0), .int (nI (mG T 6))])) := H.G5 (v := 0)
      refine px (fun _ => pm_aload_n (pc := 162) d_Mo_node_162 rfl) ?_
      refine px (fun _ => pm_getf fl_Mo_57 (pc := 163) d_Mo_node_163 H_30.1 rfl) ?_
      refine pxb (fun _ => pm_if_eq (pc := 166) (tgt := 171) d_Mo_node_166 (by decide)) (fun c_31 => ?_) (fun c_31 => absurd (rfl) c_31)
      refine px (fun _ => pm_aload_n (pc := 171) d_Mo_node_171 rfl) ?_
      refine px (fun _ => pm_dup (pc := 172) d_Mo_node_172 rfl) ?_
      refine px (fun _ => pm_getf fl_Mo_82 (pc := 173) d_Mo_node_173 H_30.1 rfl) ?_
      refine px (fun _ => pm_dup_x1 (pc := 176) d_Mo_node_176 rfl rfl) ?_
      refine px (fun _ => pm_iconst (v := 1) (pc := 177) d_Mo_node_177 rfl) ?_
      refine px (fun _ => pm_iaddN (a := (mG (msG T 5 0) 0)) (b := 1) (pc := 178) d_Mo_node_178) ?_
      refine px (fun _ => pm_putfC (c' := pm_Ob 4 [.ref (96), .ref (97), .ref (98), .ref (99), .ref (100), .ref (101), .ref (102), .ref (103), .ref (104), .ref (105), .ref (106), .ref (107), .ref (108), .ref (109), .int (nI ((mG (msG T 5 0) 0) + 1)), .int (nI (mG (msG T 5 0) 1)), .int (nI (mG (msG T 5 0) 2)), .int (nI (mG (msG T 5 0) 3)), .int (nI (mG (msG T 5 0) 4)), .int (nI (mG (msG T 5 0) 5)), .int (nI (mG (msG T 5 0) 6))]) fp_Mo_82 (pc := 179) d_Mo_node_179 H_30.1 (Nat.le_of_ble_eq_true rfl) rfl rfl rfl) ?_
      have H_32 : mH (msG (msG T 5 0) 0 (mG T 0 + 1)) ((h.set (95) (pm_Ob 4 [.ref (96), .ref (97), .ref (98), .ref (99), .ref (100), .ref (101), .ref (102), .ref (103), .ref (104), .ref (105), .ref (106), .ref (107), .ref (108), .ref (109), .int (nI (mG T 0)), .int (nI (mG T 1)), .int (nI (mG T 2)), .int (nI (mG T 3)), .int (nI (mG T 4)), .int (0), .int (nI (mG T 6))])).set (95) (pm_Ob 4 [.ref (96), .ref (97), .ref (98), .ref (99), .ref (100), .ref (101), .ref (102), .ref (103), .ref (104), .ref (105), .ref (106), .ref (107), .ref (108), .ref (109), .int (nI ((mG (msG T 5 0) 0) + 1)), .int (nI (mG (msG T 5 0) 1)), .int (nI (mG (msG T 5 0) 2)), .int (nI (mG (msG T 5 0) 3)), .int (nI (mG (msG T 5 0) 4)), .int (nI (mG (msG T 5 0) 5)), .int (nI (mG (msG T 5 0) 6))])) := H_30.G0 (v := mG T 0 + 1)
      refine px (fun _ => pm_istore (lv' := [(9, .int (nI (mG (msG T 5 0) 0))), (8, .int (0)), (0, .ref (95)), (1, .int (nI k)), (2, .int (a)), (3, .int (b)), (4, .int (c)), (5, .int (nI j)), (6, .int (p)), (7, .int (q))]) (pc := 182) d_Mo_node_182 (by decide) rfl) ?_
      refine px (fun _ => pm_aload_n (pc := 184) d_Mo_node_184 rfl) ?_
      refine px (fun _ => pm_getf fl_Mo_29 (pc := 185) d_Mo_node_185 H_32.1 rfl) ?_
      refine px (fun _ => pm_iload (pc := 188) d_Mo_node_188 rfl) ?_
      refine px (fun _ => pm_iload_n (pc := 190) d_Mo_node_190 rfl) ?_
      refine px (fun _ => pm_iast (j := mG T 0) (pc := 191) d_Mo_node_191 H_32.2.2.2.2.2.2.2.1 (rfl) (hn) (by decide)) ?_
      have H_33 : mH (msA (msG (msG T 5 0) 0 (mG T 0 + 1)) 6 (mG T 0) k) (((h.set (95) (pm_Ob 4 [.ref (96), .ref (97), .ref (98), .ref (99), .ref (100), .ref (101), .ref (102), .ref (103), .ref (104), .ref (105), .ref (106), .ref (107), .ref (108), .ref (109), .int (nI (mG T 0)), .int (nI (mG T 1)), .int (nI (mG T 2)), .int (nI (mG T 3)), .int (nI (mG T 4)), .int (0), .int (nI (mG T 6))])).set (95) (pm_Ob 4 [.ref (96), .ref (97), .ref (98), .ref (99), .ref (100), .ref (101), .ref (102), .ref (103), .ref (104), .ref (105), .ref (106), .ref (107), .ref (108), .ref (109), .int (nI ((mG (msG T 5 0) 0) + 1)), .int (nI (mG (msG T 5 0) 1)), .int (nI (mG (msG T 5 0) 2)), .int (nI (mG (msG T 5 0) 3)), .int (nI (mG (msG T 5 0) 4)), .int (nI (mG (msG T 5 0) 5)), .int (nI (mG (msG T 5 0) 6))])).set (102) (pm_I 14 (va_up (fun j => nI (mA (msG (msG T 5 0) 0 (mG T 0 + 1)) 6 j)) (mG T 0) (nI k)))) := H_32.A6 (j := mG T 0) (v := k)
      refine px (fun _ => pm_aload_n (pc := 192) d_Mo_node_192 rfl) ?_
      refine px (fun _ => pm_getf fl_Mo_47 (pc := 193) d_Mo_node_193 H_33.1 rfl) ?_
      refine px (fun _ => pm_iload (pc := 196) d_Mo_node_196 rfl) ?_
      refine px (fun _ => pm_iconst (v := 3) (pc := 198) d_Mo_node_198 rfl) ?_
      refine px (fun _ => pm_imulN (a := (mG (msG T 5 0) 0)) (b := 3) (pc := 199) d_Mo_node_199) ?_
      refine px (fun _ => pm_iload_n (pc := 200) d_Mo_node_200 rfl) ?_
      refine px (fun _ => pm_iast (j := mG T 0 * 3) (pc := 201) d_Mo_node_201 H_33.2.2.2.2.2.2.2.2.2.2.2.2.2.1 (rfl) (by omega) (by decide)) ?_
      have H_34 : mH (msQ (msA (msG (msG T 5 0) 0 (mG T 0 + 1)) 6 (mG T 0) k) 12 (mG T 0 * 3) a) ((((h.set (95) (pm_Ob 4 [.ref (96), .ref (97), .ref (98), .ref (99), .ref (100), .ref (101), .ref (102), .ref (103), .ref (104), .ref (105), .ref (106), .ref (107), .ref (108), .ref (109), .int (nI (mG T 0)), .int (nI (mG T 1)), .int (nI (mG T 2)), .int (nI (mG T 3)), .int (nI (mG T 4)), .int (0), .int (nI (mG T 6))])).set (95) (pm_Ob 4 [.ref (96), .ref (97), .ref (98), .ref (99), .ref (100), .ref (101), .ref (102), .ref (103), .ref (104), .ref (105), .ref (106), .ref (107), .ref (108), .ref (109), .int (nI ((mG (msG T 5 0) 0) + 1)), .int (nI (mG (msG T 5 0) 1)), .int (nI (mG (msG T 5 0) 2)), .int (nI (mG (msG T 5 0) 3)), .int (nI (mG (msG T 5 0) 4)), .int (nI (mG (msG T 5 0) 5)), .int (nI (mG (msG T 5 0) 6))])).set (102) (pm_I 14 (va_up (fun j => nI (mA (msG (msG T 5 0) 0 (mG T 0 + 1)) 6 j)) (mG T 0) (nI k)))).set (108) (pm_I 42 (va_up (mQ (msA (msG (msG T 5 0) 0 (mG T 0 + 1)) 6 (mG T 0) k) 12) (mG T 0 * 3) (a)))) := H_33.Q12 (j := mG T 0 * 3) (v := a)
      refine px (fun _ => pm_aload_n (pc := 202) d_Mo_node_202 rfl) ?_
      refine px (fun _ => pm_getf fl_Mo_47 (pc := 203) d_Mo_node_203 H_34.1 rfl) ?_
      refine px (fun _ => pm_iload (pc := 206) d_Mo_node_206 rfl) ?_
      refine px (fun _ => pm_iconst (v := 3) (pc := 208) d_Mo_node_208 rfl) ?_
      refine px (fun _ => pm_imulN (a := (mG (msG T 5 0) 0)) (b := 3) (pc := 209) d_Mo_node_209) ?_
      refine px (fun _ => pm_iconst (v := 1) (pc := 210) d_Mo_node_210 rfl) ?_
      refine px (fun _ => pm_iaddN (a := ((mG (msG T 5 0) 0) * 3)) (b := 1) (pc := 211) d_Mo_node_211) ?_
      refine px (fun _ => pm_iload_n (pc := 212) d_Mo_node_212 rfl) ?_
      refine px (fun _ => pm_iast (j := mG T 0 * 3 + 1) (pc := 213) d_Mo_node_213 H_34.2.2.2.2.2.2.2.2.2.2.2.2.2.1 (rfl) (by omega) (by decide)) ?_
      have H_35 : mH (msQ (msQ (msA (msG (msG T 5 0) 0 (mG T 0 + 1)) 6 (mG T 0) k) 12 (mG T 0 * 3) a) 12 (mG T 0 * 3 + 1) b) (((((h.set (95) (pm_Ob 4 [.ref (96), .ref (97), .ref (98), .ref (99), .ref (100), .ref (101), .ref (102), .ref (103), .ref (104), .ref (105), .ref (106), .ref (107), .ref (108), .ref (109), .int (nI (mG T 0)), .int (nI (mG T 1)), .int (nI (mG T 2)), .int (nI (mG T 3)), .int (nI (mG T 4)), .int (0), .int (nI (mG T 6))])).set (95) (pm_Ob 4 [.ref (96), .ref (97), .ref (98), .ref (99), .ref (100), .ref (101), .ref (102), .ref (103), .ref (104), .ref (105), .ref (106), .ref (107), .ref (108), .ref (109), .int (nI ((mG (msG T 5 0) 0) + 1)), .int (nI (mG (msG T 5 0) 1)), .int (nI (mG (msG T 5 0) 2)), .int (nI (mG (msG T 5 0) 3)), .int (nI (mG (msG T 5 0) 4)), .int (nI (mG (msG T 5 0) 5)), .int (nI (mG (msG T 5 0) 6))])).set (102) (pm_I 14 (va_up (fun j => nI (mA (msG (msG T 5 0) 0 (mG T 0 + 1)) 6 j)) (mG T 0) (nI k)))).set (108) (pm_I 42 (va_up (mQ (msA (msG (msG T 5 0) 0 (mG T 0 + 1)) 6 (mG T 0) k) 12) (mG T 0 * 3) (a)))).set (108) (pm_I 42 (va_up (mQ (msQ (msA (msG (msG T 5 0) 0 (mG T 0 + 1)) 6 (mG T 0) k) 12 (mG T 0 * 3) a) 12) (mG T 0 * 3 + 1) (b)))) := H_34.Q12 (j := mG T 0 * 3 + 1) (v := b)
      refine px (fun _ => pm_aload_n (pc := 214) d_Mo_node_214 rfl) ?_
      refine px (fun _ => pm_getf fl_Mo_47 (pc := 215) d_Mo_node_215 H_35.1 rfl) ?_
      refine px (fun _ => pm_iload (pc := 218) d_Mo_node_218 rfl) ?_
      refine px (fun _ => pm_iconst (v := 3) (pc := 220) d_Mo_node_220 rfl) ?_
      refine px (fun _ => pm_imulN (a := (mG (msG T 5 0) 0)) (b := 3) (pc := 221) d_Mo_node_221) ?_
      refine px (fun _ => pm_iconst (v := 2) (pc := 222) d_Mo_node_222 rfl) ?_
      refine px (fun _ => pm_iaddN (a := ((mG (msG T 5 0) 0) * 3)) (b := 2) (pc := 223) d_Mo_node_223) ?_
      refine px (fun _ => pm_iload (pc := 224) d_Mo_node_224 rfl) ?_
      refine px (fun _ => pm_iast (j := mG T 0 * 3 + 2) (pc := 226) d_Mo_node_226 H_35.2.2.2.2.2.2.2.2.2.2.2.2.2.1 (rfl) (by omega) (by decide)) ?_
      have H_36 : mH (msQ (msQ (msQ (msA (msG (msG T 5 0) 0 (mG T 0 + 1)) 6 (mG T 0) k) 12 (mG T 0 * 3) a) 12 (mG T 0 * 3 + 1) b) 12 (mG T 0 * 3 + 2) c) ((((((h.set (95) (pm_Ob 4 [.ref (96), .ref (97), .ref (98), .ref (99), .ref (100), .ref (101), .ref (102), .ref (103), .ref (104), .ref (105), .ref (106), .ref (107), .ref (108), .ref (109), .int (nI (mG T 0)), .int (nI (mG T 1)), .int (nI (mG T 2)), .int (nI (mG T 3)), .int (nI (mG T 4)), .int (0), .int (nI (mG T 6))])).set (95) (pm_Ob 4 [.ref (96), .ref (97), .ref (98), .ref (99), .ref (100), .ref (101), .ref (102), .ref (103), .ref (104), .ref (105), .ref (106), .ref (107), .ref (108), .ref (109), .int (nI ((mG (msG T 5 0) 0) + 1)), .int (nI (mG (msG T 5 0) 1)), .int (nI (mG (msG T 5 0) 2)), .int (nI (mG (msG T 5 0) 3)), .int (nI (mG (msG T 5 0) 4)), .int (nI (mG (msG T 5 0) 5)), .int (nI (mG (msG T 5 0) 6))])).set (102) (pm_I 14 (va_up (fun j => nI (mA (msG (msG T 5 0) 0 (mG T 0 + 1)) 6 j)) (mG T 0) (nI k)))).set (108) (pm_I 42 (va_up (mQ (msA (msG (msG T 5 0) 0 (mG T 0 + 1)) 6 (mG T 0) k) 12) (mG T 0 * 3) (a)))).set (108) (pm_I 42 (va_up (mQ (msQ (msA (msG (msG T 5 0) 0 (mG T 0 + 1)) 6 (mG T 0) k) 12 (mG T 0 * 3) a) 12) (mG T 0 * 3 + 1) (b)))).set (108) (pm_I 42 (va_up (mQ (msQ (msQ (msA (msG (msG T 5 0) 0 (mG T 0 + 1)) 6 (mG T 0) k) 12 (mG T 0 * 3) a) 12 (mG T 0 * 3 + 1) b) 12) (mG T 0 * 3 + 2) (c)))) := H_35.Q12 (j := mG T 0 * 3 + 2) (v := c)
      refine px (fun _ => pm_aload_n (pc := 227) d_Mo_node_227 rfl) ?_
      refine px (fun _ => pm_getf fl_Mo_32 (pc := 228) d_Mo_node_228 H_36.1 rfl) ?_
      refine px (fun _ => pm_iload (pc := 231) d_Mo_node_231 rfl) ?_
      refine px (fun _ => pm_iload (pc := 233) d_Mo_node_233 rfl) ?_
      refine px (fun _ => pm_iast (j := mG T 0) (pc := 235) d_Mo_node_235 H_36.2.2.2.2.2.2.2.2.1 (rfl) (hn) (by decide)) ?_
      have H_37 : mH (msA (msQ (msQ (msQ (msA (msG (msG T 5 0) 0 (mG T 0 + 1)) 6 (mG T 0) k) 12 (mG T 0 * 3) a) 12 (mG T 0 * 3 + 1) b) 12 (mG T 0 * 3 + 2) c) 7 (mG T 0) j) (((((((h.set (95) (pm_Ob 4 [.ref (96), .ref (97), .ref (98), .ref (99), .ref (100), .ref (101), .ref (102), .ref (103), .ref (104), .ref (105), .ref (106), .ref (107), .ref (108), .ref (109), .int (nI (mG T 0)), .int (nI (mG T 1)), .int (nI (mG T 2)), .int (nI (mG T 3)), .int (nI (mG T 4)), .int (0), .int (nI (mG T 6))])).set (95) (pm_Ob 4 [.ref (96), .ref (97), .ref (98), .ref (99), .ref (100), .ref (101), .ref (102), .ref (103), .ref (104), .ref (105), .ref (106), .ref (107), .ref (108), .ref (109), .int (nI ((mG (msG T 5 0) 0) + 1)), .int (nI (mG (msG T 5 0) 1)), .int (nI (mG (msG T 5 0) 2)), .int (nI (mG (msG T 5 0) 3)), .int (nI (mG (msG T 5 0) 4)), .int (nI (mG (msG T 5 0) 5)), .int (nI (mG (msG T 5 0) 6))])).set (102) (pm_I 14 (va_up (fun j => nI (mA (msG (msG T 5 0) 0 (mG T 0 + 1)) 6 j)) (mG T 0) (nI k)))).set (108) (pm_I 42 (va_up (mQ (msA (msG (msG T 5 0) 0 (mG T 0 + 1)) 6 (mG T 0) k) 12) (mG T 0 * 3) (a)))).set (108) (pm_I 42 (va_up (mQ (msQ (msA (msG (msG T 5 0) 0 (mG T 0 + 1)) 6 (mG T 0) k) 12 (mG T 0 * 3) a) 12) (mG T 0 * 3 + 1) (b)))).set (108) (pm_I 42 (va_up (mQ (msQ (msQ (msA (msG (msG T 5 0) 0 (mG T 0 + 1)) 6 (mG T 0) k) 12 (mG T 0 * 3) a) 12 (mG T 0 * 3 + 1) b) 12) (mG T 0 * 3 + 2) (c)))).set (103) (pm_I 14 (va_up (fun j => nI (mA (msQ (msQ (msQ (msA (msG (msG T 5 0) 0 (mG T 0 + 1)) 6 (mG T 0) k) 12 (mG T 0 * 3) a) 12 (mG T 0 * 3 + 1) b) 12 (mG T 0 * 3 + 2) c) 7 j)) (mG T 0) (nI j)))) := H_36.A7 (j := mG T 0) (v := j)
      refine px (fun _ => pm_aload_n (pc := 236) d_Mo_node_236 rfl) ?_
      refine px (fun _ => pm_getf fl_Mo_35 (pc := 237) d_Mo_node_237 H_37.1 rfl) ?_
      refine px (fun _ => pm_iload (pc := 240) d_Mo_node_240 rfl) ?_
      refine px (fun _ => pm_iload (pc := 242) d_Mo_node_242 rfl) ?_
      refine px (fun _ => pm_iast (j := mG T 0) (pc := 244) d_Mo_node_244 H_37.2.2.2.2.2.2.2.2.2.1 (rfl) (hn) (by decide)) ?_
      have H_38 : mH (msQ (msA (msQ (msQ (msQ (msA (msG (msG T 5 0) 0 (mG T 0 + 1)) 6 (mG T 0) k) 12 (mG T 0 * 3) a) 12 (mG T 0 * 3 + 1) b) 12 (mG T 0 * 3 + 2) c) 7 (mG T 0) j) 8 (mG T 0) p) ((((((((h.set (95) (pm_Ob 4 [.ref (96), .ref (97), .ref (98), .ref (99), .ref (100), .ref (101), .ref (102), .ref (103), .ref (104), .ref (105), .ref (106), .ref (107), .ref (108), .ref (109), .int (nI (mG T 0)), .int (nI (mG T 1)), .int (nI (mG T 2)), .int (nI (mG T 3)), .int (nI (mG T 4)), .int (0), .int (nI (mG T 6))])).set (95) (pm_Ob 4 [.ref (96), .ref (97), .ref (98), .ref (99), .ref (100), .ref (101), .ref (102), .ref (103), .ref (104), .ref (105), .ref (106), .ref (107), .ref (108), .ref (109), .int (nI ((mG (msG T 5 0) 0) + 1)), .int (nI (mG (msG T 5 0) 1)), .int (nI (mG (msG T 5 0) 2)), .int (nI (mG (msG T 5 0) 3)), .int (nI (mG (msG T 5 0) 4)), .int (nI (mG (msG T 5 0) 5)), .int (nI (mG (msG T 5 0) 6))])).set (102) (pm_I 14 (va_up (fun j => nI (mA (msG (msG T 5 0) 0 (mG T 0 + 1)) 6 j)) (mG T 0) (nI k)))).set (108) (pm_I 42 (va_up (mQ (msA (msG (msG T 5 0) 0 (mG T 0 + 1)) 6 (mG T 0) k) 12) (mG T 0 * 3) (a)))).set (108) (pm_I 42 (va_up (mQ (msQ (msA (msG (msG T 5 0) 0 (mG T 0 + 1)) 6 (mG T 0) k) 12 (mG T 0 * 3) a) 12) (mG T 0 * 3 + 1) (b)))).set (108) (pm_I 42 (va_up (mQ (msQ (msQ (msA (msG (msG T 5 0) 0 (mG T 0 + 1)) 6 (mG T 0) k) 12 (mG T 0 * 3) a) 12 (mG T 0 * 3 + 1) b) 12) (mG T 0 * 3 + 2) (c)))).set (103) (pm_I 14 (va_up (fun j => nI (mA (msQ (msQ (msQ (msA (msG (msG T 5 0) 0 (mG T 0 + 1)) 6 (mG T 0) k) 12 (mG T 0 * 3) a) 12 (mG T 0 * 3 + 1) b) 12 (mG T 0 * 3 + 2) c) 7 j)) (mG T 0) (nI j)))).set (104) (pm_I 14 (va_up (mQ (msA (msQ (msQ (msQ (msA (msG (msG T 5 0) 0 (mG T 0 + 1)) 6 (mG T 0) k) 12 (mG T 0 * 3) a) 12 (mG T 0 * 3 + 1) b) 12 (mG T 0 * 3 + 2) c) 7 (mG T 0) j) 8) (mG T 0) (p)))) := H_37.Q8 (j := mG T 0) (v := p)
      refine px (fun _ => pm_aload_n (pc := 245) d_Mo_node_245 rfl) ?_
      refine px (fun _ => pm_getf fl_Mo_38 (pc := 246) d_Mo_node_246 H_38.1 rfl) ?_
      refine px (fun _ => pm_iload (pc := 249) d_Mo_node_249 rfl) ?_
      refine px (fun _ => pm_iload (pc := 251) d_Mo_node_251 rfl) ?_
      refine px (fun _ => pm_iast (j := mG T 0) (pc := 253) d_Mo_node_253 H_38.2.2.2.2.2.2.2.2.2.2.1 (rfl) (hn) (by decide)) ?_
      have H_39 : mH (msQ (msQ (msA (msQ (msQ (msQ (msA (msG (msG T 5 0) 0 (mG T 0 + 1)) 6 (mG T 0) k) 12 (mG T 0 * 3) a) 12 (mG T 0 * 3 + 1) b) 12 (mG T 0 * 3 + 2) c) 7 (mG T 0) j) 8 (mG T 0) p) 9 (mG T 0) q) (((((((((h.set (95) (pm_Ob 4 [.ref (96), .ref (97), .ref (98), .ref (99), .ref (100), .ref (101), .ref (102), .ref (103), .ref (104), .ref (105), .ref (106), .ref (107), .ref (108), .ref (109), .int (nI (mG T 0)), .int (nI (mG T 1)), .int (nI (mG T 2)), .int (nI (mG T 3)), .int (nI (mG T 4)), .int (0), .int (nI (mG T 6))])).set (95) (pm_Ob 4 [.ref (96), .ref (97), .ref (98), .ref (99), .ref (100), .ref (101), .ref (102), .ref (103), .ref (104), .ref (105), .ref (106), .ref (107), .ref (108), .ref (109), .int (nI ((mG (msG T 5 0) 0) + 1)), .int (nI (mG (msG T 5 0) 1)), .int (nI (mG (msG T 5 0) 2)), .int (nI (mG (msG T 5 0) 3)), .int (nI (mG (msG T 5 0) 4)), .int (nI (mG (msG T 5 0) 5)), .int (nI (mG (msG T 5 0) 6))])).set (102) (pm_I 14 (va_up (fun j => nI (mA (msG (msG T 5 0) 0 (mG T 0 + 1)) 6 j)) (mG T 0) (nI k)))).set (108) (pm_I 42 (va_up (mQ (msA (msG (msG T 5 0) 0 (mG T 0 + 1)) 6 (mG T 0) k) 12) (mG T 0 * 3) (a)))).set (108) (pm_I 42 (va_up (mQ (msQ (msA (msG (msG T 5 0) 0 (mG T 0 + 1)) 6 (mG T 0) k) 12 (mG T 0 * 3) a) 12) (mG T 0 * 3 + 1) (b)))).set (108) (pm_I 42 (va_up (mQ (msQ (msQ (msA (msG (msG T 5 0) 0 (mG T 0 + 1)) 6 (mG T 0) k) 12 (mG T 0 * 3) a) 12 (mG T 0 * 3 + 1) b) 12) (mG T 0 * 3 + 2) (c)))).set (103) (pm_I 14 (va_up (fun j => nI (mA (msQ (msQ (msQ (msA (msG (msG T 5 0) 0 (mG T 0 + 1)) 6 (mG T 0) k) 12 (mG T 0 * 3) a) 12 (mG T 0 * 3 + 1) b) 12 (mG T 0 * 3 + 2) c) 7 j)) (mG T 0) (nI j)))).set (104) (pm_I 14 (va_up (mQ (msA (msQ (msQ (msQ (msA (msG (msG T 5 0) 0 (mG T 0 + 1)) 6 (mG T 0) k) 12 (mG T 0 * 3) a) 12 (mG T 0 * 3 + 1) b) 12 (mG T 0 * 3 + 2) c) 7 (mG T 0) j) 8) (mG T 0) (p)))).set (105) (pm_I 14 (va_up (mQ (msQ (msA (msQ (msQ (msQ (msA (msG (msG T 5 0) 0 (mG T 0 + 1)) 6 (mG T 0) k) 12 (mG T 0 * 3) a) 12 (mG T 0 * 3 + 1) b) 12 (mG T 0 * 3 + 2) c) 7 (mG T 0) j) 8 (mG T 0) p) 9) (mG T 0) (q)))) := H_38.Q9 (j := mG T 0) (v := q)
      refine px (fun _ => pm_aload_n (pc := 254) d_Mo_node_254 rfl) ?_
      refine px (fun _ => pm_getf fl_Mo_7 (pc := 255) d_Mo_node_255 H_39.1 rfl) ?_
      refine px (fun _ => pm_iload (pc := 258) d_Mo_node_258 rfl) ?_
      refine px (fun _ => pm_iconst (v := 3) (pc := 260) d_Mo_node_260 rfl) ?_
      refine px (fun _ => pm_iast (j := j) (pc := 261) d_Mo_node_261 H_39.2.1 (rfl) (hj) (by decide)) ?_
      have H_40 : mH (msA (msQ (msQ (msA (msQ (msQ (msQ (msA (msG (msG T 5 0) 0 (mG T 0 + 1)) 6 (mG T 0) k) 12 (mG T 0 * 3) a) 12 (mG T 0 * 3 + 1) b) 12 (mG T 0 * 3 + 2) c) 7 (mG T 0) j) 8 (mG T 0) p) 9 (mG T 0) q) 0 j 3) ((((((((((h.set (95) (pm_Ob 4 [.ref (96), .ref (97), .ref (98), .ref (99), .ref (100), .ref (101), .ref (102), .ref (103), .ref (104), .ref (105), .ref (106), .ref (107), .ref (108), .ref (109), .int (nI (mG T 0)), .int (nI (mG T 1)), .int (nI (mG T 2)), .int (nI (mG T 3)), .int (nI (mG T 4)), .int (0), .int (nI (mG T 6))])).set (95) (pm_Ob 4 [.ref (96), .ref (97), .ref (98), .ref (99), .ref (100), .ref (101), .ref (102), .ref (103), .ref (104), .ref (105), .ref (106), .ref (107), .ref (108), .ref (109), .int (nI ((mG (msG T 5 0) 0) + 1)), .int (nI (mG (msG T 5 0) 1)), .int (nI (mG (msG T 5 0) 2)), .int (nI (mG (msG T 5 0) 3)), .int (nI (mG (msG T 5 0) 4)), .int (nI (mG (msG T 5 0) 5)), .int (nI (mG (msG T 5 0) 6))])).set (102) (pm_I 14 (va_up (fun j => nI (mA (msG (msG T 5 0) 0 (mG T 0 + 1)) 6 j)) (mG T 0) (nI k)))).set (108) (pm_I 42 (va_up (mQ (msA (msG (msG T 5 0) 0 (mG T 0 + 1)) 6 (mG T 0) k) 12) (mG T 0 * 3) (a)))).set (108) (pm_I 42 (va_up (mQ (msQ (msA (msG (msG T 5 0) 0 (mG T 0 + 1)) 6 (mG T 0) k) 12 (mG T 0 * 3) a) 12) (mG T 0 * 3 + 1) (b)))).set (108) (pm_I 42 (va_up (mQ (msQ (msQ (msA (msG (msG T 5 0) 0 (mG T 0 + 1)) 6 (mG T 0) k) 12 (mG T 0 * 3) a) 12 (mG T 0 * 3 + 1) b) 12) (mG T 0 * 3 + 2) (c)))).set (103) (pm_I 14 (va_up (fun j => nI (mA (msQ (msQ (msQ (msA (msG (msG T 5 0) 0 (mG T 0 + 1)) 6 (mG T 0) k) 12 (mG T 0 * 3) a) 12 (mG T 0 * 3 + 1) b) 12 (mG T 0 * 3 + 2) c) 7 j)) (mG T 0) (nI j)))).set (104) (pm_I 14 (va_up (mQ (msA (msQ (msQ (msQ (msA (msG (msG T 5 0) 0 (mG T 0 + 1)) 6 (mG T 0) k) 12 (mG T 0 * 3) a) 12 (mG T 0 * 3 + 1) b) 12 (mG T 0 * 3 + 2) c) 7 (mG T 0) j) 8) (mG T 0) (p)))).set (105) (pm_I 14 (va_up (mQ (msQ (msA (msQ (msQ (msQ (msA (msG (msG T 5 0) 0 (mG T 0 + 1)) 6 (mG T 0) k) 12 (mG T 0 * 3) a) 12 (mG T 0 * 3 + 1) b) 12 (mG T 0 * 3 + 2) c) 7 (mG T 0) j) 8 (mG T 0) p) 9) (mG T 0) (q)))).set (96) (pm_I 20 (va_up (fun j => nI (mA (msQ (msQ (msA (msQ (msQ (msQ (msA (msG (msG T 5 0) 0 (mG T 0 + 1)) 6 (mG T 0) k) 12 (mG T 0 * 3) a) 12 (mG T 0 * 3 + 1) b) 12 (mG T 0 * 3 + 2) c) 7 (mG T 0) j) 8 (mG T 0) p) 9 (mG T 0) q) 0 j)) (j) (3)))) := H_39.A0 (j := j) (v := 3)
      refine px (fun _ => pm_aload_n (pc := 262) d_Mo_node_262 rfl) ?_
      refine px (fun _ => pm_getf fl_Mo_22 (pc := 263) d_Mo_node_263 H_40.1 rfl) ?_
      refine px (fun _ => pm_iload (pc := 266) d_Mo_node_266 rfl) ?_
      refine px (fun _ => pm_iload (pc := 268) d_Mo_node_268 rfl) ?_
      refine px (fun _ => pm_iast (j := j) (pc := 270) d_Mo_node_270 H_40.2.2.2.2.2.1 (rfl) (hj) (by decide)) ?_
      have H_41 : mH (msA (msA (msQ (msQ (msA (msQ (msQ (msQ (msA (msG (msG T 5 0) 0 (mG T 0 + 1)) 6 (mG T 0) k) 12 (mG T 0 * 3) a) 12 (mG T 0 * 3 + 1) b) 12 (mG T 0 * 3 + 2) c) 7 (mG T 0) j) 8 (mG T 0) p) 9 (mG T 0) q) 0 j 3) 4 j (mG T 0)) (((((((((((h.set (95) (pm_Ob 4 [.ref (96), .ref (97), .ref (98), .ref (99), .ref (100), .ref (101), .ref (102), .ref (103), .ref (104), .ref (105), .ref (106), .ref (107), .ref (108), .ref (109), .int (nI (mG T 0)), .int (nI (mG T 1)), .int (nI (mG T 2)), .int (nI (mG T 3)), .int (nI (mG T 4)), .int (0), .int (nI (mG T 6))])).set (95) (pm_Ob 4 [.ref (96), .ref (97), .ref (98), .ref (99), .ref (100), .ref (101), .ref (102), .ref (103), .ref (104), .ref (105), .ref (106), .ref (107), .ref (108), .ref (109), .int (nI ((mG (msG T 5 0) 0) + 1)), .int (nI (mG (msG T 5 0) 1)), .int (nI (mG (msG T 5 0) 2)), .int (nI (mG (msG T 5 0) 3)), .int (nI (mG (msG T 5 0) 4)), .int (nI (mG (msG T 5 0) 5)), .int (nI (mG (msG T 5 0) 6))])).set (102) (pm_I 14 (va_up (fun j => nI (mA (msG (msG T 5 0) 0 (mG T 0 + 1)) 6 j)) (mG T 0) (nI k)))).set (108) (pm_I 42 (va_up (mQ (msA (msG (msG T 5 0) 0 (mG T 0 + 1)) 6 (mG T 0) k) 12) (mG T 0 * 3) (a)))).set (108) (pm_I 42 (va_up (mQ (msQ (msA (msG (msG T 5 0) 0 (mG T 0 + 1)) 6 (mG T 0) k) 12 (mG T 0 * 3) a) 12) (mG T 0 * 3 + 1) (b)))).set (108) (pm_I 42 (va_up (mQ (msQ (msQ (msA (msG (msG T 5 0) 0 (mG T 0 + 1)) 6 (mG T 0) k) 12 (mG T 0 * 3) a) 12 (mG T 0 * 3 + 1) b) 12) (mG T 0 * 3 + 2) (c)))).set (103) (pm_I 14 (va_up (fun j => nI (mA (msQ (msQ (msQ (msA (msG (msG T 5 0) 0 (mG T 0 + 1)) 6 (mG T 0) k) 12 (mG T 0 * 3) a) 12 (mG T 0 * 3 + 1) b) 12 (mG T 0 * 3 + 2) c) 7 j)) (mG T 0) (nI j)))).set (104) (pm_I 14 (va_up (mQ (msA (msQ (msQ (msQ (msA (msG (msG T 5 0) 0 (mG T 0 + 1)) 6 (mG T 0) k) 12 (mG T 0 * 3) a) 12 (mG T 0 * 3 + 1) b) 12 (mG T 0 * 3 + 2) c) 7 (mG T 0) j) 8) (mG T 0) (p)))).set (105) (pm_I 14 (va_up (mQ (msQ (msA (msQ (msQ (msQ (msA (msG (msG T 5 0) 0 (mG T 0 + 1)) 6 (mG T 0) k) 12 (mG T 0 * 3) a) 12 (mG T 0 * 3 + 1) b) 12 (mG T 0 * 3 + 2) c) 7 (mG T 0) j) 8 (mG T 0) p) 9) (mG T 0) (q)))).set (96) (pm_I 20 (va_up (fun j => nI (mA (msQ (msQ (msA (msQ (msQ (msQ (msA (msG (msG T 5 0) 0 (mG T 0 + 1)) 6 (mG T 0) k) 12 (mG T 0 * 3) a) 12 (mG T 0 * 3 + 1) b) 12 (mG T 0 * 3 + 2) c) 7 (mG T 0) j) 8 (mG T 0) p) 9 (mG T 0) q) 0 j)) (j) (3)))).set (100) (pm_I 20 (va_up (fun j => nI (mA (msA (msQ (msQ (msA (msQ (msQ (msQ (msA (msG (msG T 5 0) 0 (mG T 0 + 1)) 6 (mG T 0) k) 12 (mG T 0 * 3) a) 12 (mG T 0 * 3 + 1) b) 12 (mG T 0 * 3 + 2) c) 7 (mG T 0) j) 8 (mG T 0) p) 9 (mG T 0) q) 0 j 3) 4 j)) (j) (nI (mG (msG T 5 0) 0))))) := H_40.A4 (j := j) (v := mG T 0)
      refine px (fun _ => pm_aload_n (pc := 271) d_Mo_node_271 rfl) ?_
      obtain ⟨⟨o42, h42⟩, ⟨e42, H42, F42⟩, en42⟩ := m_change (l := l) (G := G) (fi := fi) (T := msA (msA (msQ (msQ (msA (msQ (msQ (msQ (msA (msG (msG T 5 0) 0 (mG T 0 + 1)) 6 (mG T 0) k) 12 (mG T 0 * 3) a) 12 (mG T 0 * 3 + 1) b) 12 (mG T 0 * 3 + 2) c) 7 (mG T 0) j) 8 (mG T 0) p) 9 (mG T 0) q) 0 j 3) 4 j (mG T 0)) hl H_41
      dsimp only at e42 H42 F42
      subst e42
      refine px (fun _ => k_Mo_node_272 (kc1 := 0) (ks1 := 0) (kc := 0) (ks := 0) (av := []) (st := []) H_41.1 (en42) rfl rfl (Nat.le_of_ble_eq_true rfl)) ?_
      refine px (fun _ => pm_iload (pc := 275) d_Mo_node_275 rfl) ?_
      exact pxr (pm_iret (pc := 277) d_Mo_node_277 rfl rfl) ⟨rfl, H42, ((mFr.set _ _ (by omega))).tr (((mFr.set _ _ (by omega))).tr (((mFr.set _ _ (by omega))).tr (((mFr.set _ _ (by omega))).tr (((mFr.set _ _ (by omega))).tr (((mFr.set _ _ (by omega))).tr (((mFr.set _ _ (by omega))).tr (((mFr.set _ _ (by omega))).tr (((mFr.set _ _ (by omega))).tr (((mFr.set _ _ (by omega))).tr (((mFr.set _ _ (by omega))).tr (F42)))))))))))⟩
  · have n_c_8 : ¬ ((m_ar k) ≤ 1) := fun zq => c_8 ((nI_leI (a := (m_ar k)) (b := 1) (by omega) (by omega)).mpr zq)
    refine px (fun _ => pm_aload_n (pc := 85) d_Mo_node_85 rfl) ?_
    refine px (fun _ => pm_iload_n (pc := 86) d_Mo_node_86 rfl) ?_
    refine px (fun _ => k_Mo_node_87 (kc1 := 0) (ks1 := 0) (kc := 0) (ks := 0) (av := [.int (b)]) (st := []) H.1 (m_ns_s hl H (hb.resolve_left (fun q => by omega)).2) rfl rfl (Nat.le_of_ble_eq_true rfl)) ?_
    refine pxb (fun _ => pm_if_eq (pc := 90) (tgt := 101) d_Mo_node_90 (by decide)) (fun c_43 => ?_) (fun c_43 => absurd (by decide) c_43)
    refine px (fun _ => pm_aload_n (pc := 101) d_Mo_node_101 rfl) ?_
    refine px (fun _ => pm_iload_n (pc := 102) d_Mo_node_102 rfl) ?_
    refine px (fun _ => k_Mo_node_103 (kc1 := 0) (ks1 := 0) (kc := 0) (ks := 0) (av := [.int (nI k)]) (st := []) H.1 (m_arity hl H hk) rfl rfl (Nat.le_of_ble_eq_true rfl)) ?_
    refine px (fun _ => pm_iconst (v := 2) (pc := 106) d_Mo_node_106 rfl) ?_
    refine pxb (fun _ => pm_icmp_le (pc := 107) (tgt := 122) d_Mo_node_107 (by decide)) (fun c_44 => ?_) (fun c_44 => ?_)
    · have n_c_44 : (m_ar k) ≤ 2 := (nI_leI (a := (m_ar k)) (b := 2) (by omega) (by omega)).mp c_44
      refine px (fun _ => pm_iload (pc := 122) d_Mo_node_122 rfl) ?_
      refine px (fun _ => pm_iconst (v := -1) (pc := 124) d_Mo_node_124 rfl) ?_
      refine pxb (fun _ => pm_icmp_eq (pc := 125) (tgt := 132) d_Mo_node_125 (by decide)) (fun c_45 => ?_) (fun c_45 => absurd ((hc.resolve_right (fun q => q.1 (by omega))).2) c_45)
      refine px (fun _ => pm_iconst (v := 0) (pc := 132) d_Mo_node_132 rfl) ?_
      refine px (fun _ => pm_istore (lv' := [(8, .int (0)), (0, .ref (95)), (1, .int (nI k)), (2, .int (a)), (3, .int (b)), (4, .int (c)), (5, .int (nI j)), (6, .int (p)), (7, .int (q))]) (pc := 133) d_Mo_node_133 (by decide) rfl) ?_
      refine px (fun _ => pm_aload_n (pc := 135) d_Mo_node_135 rfl) ?_
      refine px (fun _ => pm_iload (pc := 136) d_Mo_node_136 rfl) ?_
      refine pxb (fun _ => pm_if_eq (pc := 138) (tgt := 145) d_Mo_node_138 (by decide)) (fun c_46 => ?_) (fun c_46 => absurd (by decide) c_46)
      refine px (fun _ => pm_aload_n (pc := 145) d_Mo_node_145 rfl) ?_
      refine px (fun _ => pm_getf fl_Mo_82 (pc := 146) d_Mo_node_146 H.1 rfl) ?_
      refine px (fun _ => pm_bipush (v := 14) (pc := 149) d_Mo_node_149 rfl) ?_
      refine pxn (fun _ => pm_icmp_ne (pc := 151) (tgt := 158) d_Mo_node_151 (by decide)) (fun c_47 => ?_) (fun c_47 => absurd c_47 (fun q => absurd ((nI_eq (a := mG T 0) (b := 14) (by omega) (by omega)).mp q) (by omega)))
      refine px (fun _ => pm_iconst (v := 0) (pc := 158) d_Mo_node_158 rfl) ?_
      refine px (fun _ => pm_putfC (c' := pm_Ob 4 [.ref (96), .ref (97), .ref (98), .ref (99), .ref (100), .ref (101), .ref (102), .ref (103), .ref (104), .ref (105), .ref (106), .ref (107), .ref (108), .ref (109), .int (nI (mG T 0)), .int (nI (mG T 1)), .int (nI (mG T 2)), .int (nI (mG T 3)), .int (nI (mG T 4)), .int (0), .int (nI (mG T 6))]) fp_Mo_57 (pc := 159) d_Mo_node_159 H.1 (Nat.le_of_ble_eq_true rfl) rfl rfl rfl) ?_
      have H_48 : mH (msG T 5 0) (h.set (95) (pm_Ob 4 [.ref (96), .ref (97), .ref (98), .ref (99), .ref (100), .ref (101), .ref (102), .ref (103), .ref (104), .ref (105), .ref (106), .ref (107), .ref (108), .ref (109), .int (nI (mG T 0)), .int (nI (mG T 1)), .int (nI (mG T 2)), .int (nI (mG T 3)), .int (nI (mG T 4)), .int (0), .int (nI (mG T 6))])) := H.G5 (v := 0)
      refine px (fun _ => pm_aload_n (pc := 162) d_Mo_node_162 rfl) ?_
      refine px (fun _ => pm_getf fl_Mo_57 (pc := 163) d_Mo_node_163 H_48.1 rfl) ?_
      refine pxb (fun _ => pm_if_eq (pc := 166) (tgt := 171) d_Mo_node_166 (by decide)) (fun c_49 => ?_) (fun c_49 => absurd (rfl) c_49)
      refine px (fun _ => pm_aload_n (pc := 171) d_Mo_node_171 rfl) ?_
      refine px (fun _ => pm_dup (pc := 172) d_Mo_node_172 rfl) ?_
      refine px (fun _ => pm_getf fl_Mo_82 (pc := 173) d_Mo_node_173 H_48.1 rfl) ?_
      refine px (fun _ => pm_dup_x1 (pc := 176) d_Mo_node_176 rfl rfl) ?_
      refine px (fun _ => pm_iconst (v := 1) (pc := 177) d_Mo_node_177 rfl) ?_
      refine px (fun _ => pm_iaddN (a := (mG (msG T 5 0) 0)) (b := 1) (pc := 178) d_Mo_node_178) ?_
      refine px (fun _ => pm_putfC (c' := pm_Ob 4 [.ref (96), .ref (97), .ref (98), .ref (99), .ref (100), .ref (101), .ref (102), .ref (103), .ref (104), .ref (105), .ref (106), .ref (107), .ref (108), .ref (109), .int (nI ((mG (msG T 5 0) 0) + 1)), .int (nI (mG (msG T 5 0) 1)), .int (nI (mG (msG T 5 0) 2)), .int (nI (mG (msG T 5 0) 3)), .int (nI (mG (msG T 5 0) 4)), .int (nI (mG (msG T 5 0) 5)), .int (nI (mG (msG T 5 0) 6))]) fp_Mo_82 (pc := 179) d_Mo_node_179 H_48.1 (Nat.le_of_ble_eq_true rfl) rfl rfl rfl) ?_
      have H_50 : mH (msG (msG T 5 0) 0 (mG T 0 + 1)) ((h.set (95) (pm_Ob 4 [.ref (96), .ref (97), .ref (98), .ref (99), .ref (100), .ref (101), .ref (102), .ref (103), .ref (104), .ref (105), .ref (106), .ref (107), .ref (108), .ref (109), .int (nI (mG T 0)), .int (nI (mG T 1)), .int (nI (mG T 2)), .int (nI (mG T 3)), .int (nI (mG T 4)), .int (0), .int (nI (mG T 6))])).set (95) (pm_Ob 4 [.ref (96), .ref (97), .ref (98), .ref (99), .ref (100), .ref (101), .ref (102), .ref (103), .ref (104), .ref (105), .ref (106), .ref (107), .ref (108), .ref (109), .int (nI ((mG (msG T 5 0) 0) + 1)), .int (nI (mG (msG T 5 0) 1)), .int (nI (mG (msG T 5 0) 2)), .int (nI (mG (msG T 5 0) 3)), .int (nI (mG (msG T 5 0) 4)), .int (nI (mG (msG T 5 0) 5)), .int (nI (mG (msG T 5 0) 6))])) := H_48.G0 (v := mG T 0 + 1)
      refine px (fun _ => pm_istore (lv' := [(9, .int (nI (mG (msG T 5 0) 0))), (8, .int (0)), (0, .ref (95)), (1, .int (nI k)), (2, .int (a)), (3, .int (b)), (4, .int (c)), (5, .int (nI j)), (6, .int (p)), (7, .int (q))]) (pc := 182) d_Mo_node_182 (by decide) rfl) ?_
      refine px (fun _ => pm_aload_n (pc := 184) d_Mo_node_184 rfl) ?_
      refine px (fun _ => pm_getf fl_Mo_29 (pc := 185) d_Mo_node_185 H_50.1 rfl) ?_
      refine px (fun _ => pm_iload (pc := 188) d_Mo_node_188 rfl) ?_
      refine px (fun _ => pm_iload_n (pc := 190) d_Mo_node_190 rfl) ?_
      refine px (fun _ => pm_iast (j := mG T 0) (pc := 191) d_Mo_node_191 H_50.2.2.2.2.2.2.2.1 (rfl) (hn) (by decide)) ?_
      have H_51 : mH (msA (msG (msG T 5 0) 0 (mG T 0 + 1)) 6 (mG T 0) k) (((h.set (95) (pm_Ob 4 [.ref (96), .ref (97), .ref (98), .ref (99), .ref (100), .ref (101), .ref (102), .ref (103), .ref (104), .ref (105), .ref (106), .ref (107), .ref (108), .ref (109), .int (nI (mG T 0)), .int (nI (mG T 1)), .int (nI (mG T 2)), .int (nI (mG T 3)), .int (nI (mG T 4)), .int (0), .int (nI (mG T 6))])).set (95) (pm_Ob 4 [.ref (96), .ref (97), .ref (98), .ref (99), .ref (100), .ref (101), .ref (102), .ref (103), .ref (104), .ref (105), .ref (106), .ref (107), .ref (108), .ref (109), .int (nI ((mG (msG T 5 0) 0) + 1)), .int (nI (mG (msG T 5 0) 1)), .int (nI (mG (msG T 5 0) 2)), .int (nI (mG (msG T 5 0) 3)), .int (nI (mG (msG T 5 0) 4)), .int (nI (mG (msG T 5 0) 5)), .int (nI (mG (msG T 5 0) 6))])).set (102) (pm_I 14 (va_up (fun j => nI (mA (msG (msG T 5 0) 0 (mG T 0 + 1)) 6 j)) (mG T 0) (nI k)))) := H_50.A6 (j := mG T 0) (v := k)
      refine px (fun _ => pm_aload_n (pc := 192) d_Mo_node_192 rfl) ?_
      refine px (fun _ => pm_getf fl_Mo_47 (pc := 193) d_Mo_node_193 H_51.1 rfl) ?_
      refine px (fun _ => pm_iload (pc := 196) d_Mo_node_196 rfl) ?_
      refine px (fun _ => pm_iconst (v := 3) (pc := 198) d_Mo_node_198 rfl) ?_
      refine px (fun _ => pm_imulN (a := (mG (msG T 5 0) 0)) (b := 3) (pc := 199) d_Mo_node_199) ?_
      refine px (fun _ => pm_iload_n (pc := 200) d_Mo_node_200 rfl) ?_
      refine px (fun _ => pm_iast (j := mG T 0 * 3) (pc := 201) d_Mo_node_201 H_51.2.2.2.2.2.2.2.2.2.2.2.2.2.1 (rfl) (by omega) (by decide)) ?_
      have H_52 : mH (msQ (msA (msG (msG T 5 0) 0 (mG T 0 + 1)) 6 (mG T 0) k) 12 (mG T 0 * 3) a) ((((h.set (95) (pm_Ob 4 [.ref (96), .ref (97), .ref (98), .ref (99), .ref (100), .ref (101), .ref (102), .ref (103), .ref (104), .ref (105), .ref (106), .ref (107), .ref (108), .ref (109), .int (nI (mG T 0)), .int (nI (mG T 1)), .int (nI (mG T 2)), .int (nI (mG T 3)), .int (nI (mG T 4)), .int (0), .int (nI (mG T 6))])).set (95) (pm_Ob 4 [.ref (96), .ref (97), .ref (98), .ref (99), .ref (100), .ref (101), .ref (102), .ref (103), .ref (104), .ref (105), .ref (106), .ref (107), .ref (108), .ref (109), .int (nI ((mG (msG T 5 0) 0) + 1)), .int (nI (mG (msG T 5 0) 1)), .int (nI (mG (msG T 5 0) 2)), .int (nI (mG (msG T 5 0) 3)), .int (nI (mG (msG T 5 0) 4)), .int (nI (mG (msG T 5 0) 5)), .int (nI (mG (msG T 5 0) 6))])).set (102) (pm_I 14 (va_up (fun j => nI (mA (msG (msG T 5 0) 0 (mG T 0 + 1)) 6 j)) (mG T 0) (nI k)))).set (108) (pm_I 42 (va_up (mQ (msA (msG (msG T 5 0) 0 (mG T 0 + 1)) 6 (mG T 0) k) 12) (mG T 0 * 3) (a)))) := H_51.Q12 (j := mG T 0 * 3) (v := a)
      refine px (fun _ => pm_aload_n (pc := 202) d_Mo_node_202 rfl) ?_
      refine px (fun _ => pm_getf fl_Mo_47 (pc := 203) d_Mo_node_203 H_52.1 rfl) ?_
      refine px (fun _ => pm_iload (pc := 206) d_Mo_node_206 rfl) ?_
      refine px (fun _ => pm_iconst (v := 3) (pc := 208) d_Mo_node_208 rfl) ?_
      refine px (fun _ => pm_imulN (a := (mG (msG T 5 0) 0)) (b := 3) (pc := 209) d_Mo_node_209) ?_
      refine px (fun _ => pm_iconst (v := 1) (pc := 210) d_Mo_node_210 rfl) ?_
      refine px (fun _ => pm_iaddN (a := ((mG (msG T 5 0) 0) * 3)) (b := 1) (pc := 211) d_Mo_node_211) ?_
      refine px (fun _ => pm_iload_n (pc := 212) d_Mo_node_212 rfl) ?_
      refine px (fun _ => pm_iast (j := mG T 0 * 3 + 1) (pc := 213) d_Mo_node_213 H_52.2.2.2.2.2.2.2.2.2.2.2.2.2.1 (rfl) (by omega) (by decide)) ?_
      have H_53 : mH (msQ (msQ (msA (msG (msG T 5 0) 0 (mG T 0 + 1)) 6 (mG T 0) k) 12 (mG T 0 * 3) a) 12 (mG T 0 * 3 + 1) b) (((((h.set (95) (pm_Ob 4 [.ref (96), .ref (97), .ref (98), .ref (99), .ref (100), .ref (101), .ref (102), .ref (103), .ref (104), .ref (105), .ref (106), .ref (107), .ref (108), .ref (109), .int (nI (mG T 0)), .int (nI (mG T 1)), .int (nI (mG T 2)), .int (nI (mG T 3)), .int (nI (mG T 4)), .int (0), .int (nI (mG T 6))])).set (95) (pm_Ob 4 [.ref (96), .ref (97), .ref (98), .ref (99), .ref (100), .ref (101), .ref (102), .ref (103), .ref (104), .ref (105), .ref (106), .ref (107), .ref (108), .ref (109), .int (nI ((mG (msG T 5 0) 0) + 1)), .int (nI (mG (msG T 5 0) 1)), .int (nI (mG (msG T 5 0) 2)), .int (nI (mG (msG T 5 0) 3)), .int (nI (mG (msG T 5 0) 4)), .int (nI (mG (msG T 5 0) 5)), .int (nI (mG (msG T 5 0) 6))])).set (102) (pm_I 14 (va_up (fun j => nI (mA (msG (msG T 5 0) 0 (mG T 0 + 1)) 6 j)) (mG T 0) (nI k)))).set (108) (pm_I 42 (va_up (mQ (msA (msG (msG T 5 0) 0 (mG T 0 + 1)) 6 (mG T 0) k) 12) (mG T 0 * 3) (a)))).set (108) (pm_I 42 (va_up (mQ (msQ (msA (msG (msG T 5 0) 0 (mG T 0 + 1)) 6 (mG T 0) k) 12 (mG T 0 * 3) a) 12) (mG T 0 * 3 + 1) (b)))) := H_52.Q12 (j := mG T 0 * 3 + 1) (v := b)
      refine px (fun _ => pm_aload_n (pc := 214) d_Mo_node_214 rfl) ?_
      refine px (fun _ => pm_getf fl_Mo_47 (pc := 215) d_Mo_node_215 H_53.1 rfl) ?_
      refine px (fun _ => pm_iload (pc := 218) d_Mo_node_218 rfl) ?_
      refine px (fun _ => pm_iconst (v := 3) (pc := 220) d_Mo_node_220 rfl) ?_
      refine px (fun _ => pm_imulN (a := (mG (msG T 5 0) 0)) (b := 3) (pc := 221) d_Mo_node_221) ?_
      refine px (fun _ => pm_iconst (v := 2) (pc := 222) d_Mo_node_222 rfl) ?_
      refine px (fun _ => pm_iaddN (a := ((mG (msG T 5 0) 0) * 3)) (b := 2) (pc := 223) d_Mo_node_223) ?_
      refine px (fun _ => pm_iload (pc := 224) d_Mo_node_224 rfl) ?_
      refine px (fun _ => pm_iast (j := mG T 0 * 3 + 2) (pc := 226) d_Mo_node_226 H_53.2.2.2.2.2.2.2.2.2.2.2.2.2.1 (rfl) (by omega) (by decide)) ?_
      have H_54 : mH (msQ (msQ (msQ (msA (msG (msG T 5 0) 0 (mG T 0 + 1)) 6 (mG T 0) k) 12 (mG T 0 * 3) a) 12 (mG T 0 * 3 + 1) b) 12 (mG T 0 * 3 + 2) c) ((((((h.set (95) (pm_Ob 4 [.ref (96), .ref (97), .ref (98), .ref (99), .ref (100), .ref (101), .ref (102), .ref (103), .ref (104), .ref (105), .ref (106), .ref (107), .ref (108), .ref (109), .int (nI (mG T 0)), .int (nI (mG T 1)), .int (nI (mG T 2)), .int (nI (mG T 3)), .int (nI (mG T 4)), .int (0), .int (nI (mG T 6))])).set (95) (pm_Ob 4 [.ref (96), .ref (97), .ref (98), .ref (99), .ref (100), .ref (101), .ref (102), .ref (103), .ref (104), .ref (105), .ref (106), .ref (107), .ref (108), .ref (109), .int (nI ((mG (msG T 5 0) 0) + 1)), .int (nI (mG (msG T 5 0) 1)), .int (nI (mG (msG T 5 0) 2)), .int (nI (mG (msG T 5 0) 3)), .int (nI (mG (msG T 5 0) 4)), .int (nI (mG (msG T 5 0) 5)), .int (nI (mG (msG T 5 0) 6))])).set (102) (pm_I 14 (va_up (fun j => nI (mA (msG (msG T 5 0) 0 (mG T 0 + 1)) 6 j)) (mG T 0) (nI k)))).set (108) (pm_I 42 (va_up (mQ (msA (msG (msG T 5 0) 0 (mG T 0 + 1)) 6 (mG T 0) k) 12) (mG T 0 * 3) (a)))).set (108) (pm_I 42 (va_up (mQ (msQ (msA (msG (msG T 5 0) 0 (mG T 0 + 1)) 6 (mG T 0) k) 12 (mG T 0 * 3) a) 12) (mG T 0 * 3 + 1) (b)))).set (108) (pm_I 42 (va_up (mQ (msQ (msQ (msA (msG (msG T 5 0) 0 (mG T 0 + 1)) 6 (mG T 0) k) 12 (mG T 0 * 3) a) 12 (mG T 0 * 3 + 1) b) 12) (mG T 0 * 3 + 2) (c)))) := H_53.Q12 (j := mG T 0 * 3 + 2) (v := c)
      refine px (fun _ => pm_aload_n (pc := 227) d_Mo_node_227 rfl) ?_
      refine px (fun _ => pm_getf fl_Mo_32 (pc := 228) d_Mo_node_228 H_54.1 rfl) ?_
      refine px (fun _ => pm_iload (pc := 231) d_Mo_node_231 rfl) ?_
      refine px (fun _ => pm_iload (pc := 233) d_Mo_node_233 rfl) ?_
      refine px (fun _ => pm_iast (j := mG T 0) (pc := 235) d_Mo_node_235 H_54.2.2.2.2.2.2.2.2.1 (rfl) (hn) (by decide)) ?_
      have H_55 : mH (msA (msQ (msQ (msQ (msA (msG (msG T 5 0) 0 (mG T 0 + 1)) 6 (mG T 0) k) 12 (mG T 0 * 3) a) 12 (mG T 0 * 3 + 1) b) 12 (mG T 0 * 3 + 2) c) 7 (mG T 0) j) (((((((h.set (95) (pm_Ob 4 [.ref (96), .ref (97), .ref (98), .ref (99), .ref (100), .ref (101), .ref (102), .ref (103), .ref (104), .ref (105), .ref (106), .ref (107), .ref (108), .ref (109), .int (nI (mG T 0)), .int (nI (mG T 1)), .int (nI (mG T 2)), .int (nI (mG T 3)), .int (nI (mG T 4)), .int (0), .int (nI (mG T 6))])).set (95) (pm_Ob 4 [.ref (96), .ref (97), .ref (98), .ref (99), .ref (100), .ref (101), .ref (102), .ref (103), .ref (104), .ref (105), .ref (106), .ref (107), .ref (108), .ref (109), .int (nI ((mG (msG T 5 0) 0) + 1)), .int (nI (mG (msG T 5 0) 1)), .int (nI (mG (msG T 5 0) 2)), .int (nI (mG (msG T 5 0) 3)), .int (nI (mG (msG T 5 0) 4)), .int (nI (mG (msG T 5 0) 5)), .int (nI (mG (msG T 5 0) 6))])).set (102) (pm_I 14 (va_up (fun j => nI (mA (msG (msG T 5 0) 0 (mG T 0 + 1)) 6 j)) (mG T 0) (nI k)))).set (108) (pm_I 42 (va_up (mQ (msA (msG (msG T 5 0) 0 (mG T 0 + 1)) 6 (mG T 0) k) 12) (mG T 0 * 3) (a)))).set (108) (pm_I 42 (va_up (mQ (msQ (msA (msG (msG T 5 0) 0 (mG T 0 + 1)) 6 (mG T 0) k) 12 (mG T 0 * 3) a) 12) (mG T 0 * 3 + 1) (b)))).set (108) (pm_I 42 (va_up (mQ (msQ (msQ (msA (msG (msG T 5 0) 0 (mG T 0 + 1)) 6 (mG T 0) k) 12 (mG T 0 * 3) a) 12 (mG T 0 * 3 + 1) b) 12) (mG T 0 * 3 + 2) (c)))).set (103) (pm_I 14 (va_up (fun j => nI (mA (msQ (msQ (msQ (msA (msG (msG T 5 0) 0 (mG T 0 + 1)) 6 (mG T 0) k) 12 (mG T 0 * 3) a) 12 (mG T 0 * 3 + 1) b) 12 (mG T 0 * 3 + 2) c) 7 j)) (mG T 0) (nI j)))) := H_54.A7 (j := mG T 0) (v := j)
      refine px (fun _ => pm_aload_n (pc := 236) d_Mo_node_236 rfl) ?_
      refine px (fun _ => pm_getf fl_Mo_35 (pc := 237) d_Mo_node_237 H_55.1 rfl) ?_
      refine px (fun _ => pm_iload (pc := 240) d_Mo_node_240 rfl) ?_
      refine px (fun _ => pm_iload (pc := 242) d_Mo_node_242 rfl) ?_
      refine px (fun _ => pm_iast (j := mG T 0) (pc := 244) d_Mo_node_244 H_55.2.2.2.2.2.2.2.2.2.1 (rfl) (hn) (by decide)) ?_
      have H_56 : mH (msQ (msA (msQ (msQ (msQ (msA (msG (msG T 5 0) 0 (mG T 0 + 1)) 6 (mG T 0) k) 12 (mG T 0 * 3) a) 12 (mG T 0 * 3 + 1) b) 12 (mG T 0 * 3 + 2) c) 7 (mG T 0) j) 8 (mG T 0) p) ((((((((h.set (95) (pm_Ob 4 [.ref (96), .ref (97), .ref (98), .ref (99), .ref (100), .ref (101), .ref (102), .ref (103), .ref (104), .ref (105), .ref (106), .ref (107), .ref (108), .ref (109), .int (nI (mG T 0)), .int (nI (mG T 1)), .int (nI (mG T 2)), .int (nI (mG T 3)), .int (nI (mG T 4)), .int (0), .int (nI (mG T 6))])).set (95) (pm_Ob 4 [.ref (96), .ref (97), .ref (98), .ref (99), .ref (100), .ref (101), .ref (102), .ref (103), .ref (104), .ref (105), .ref (106), .ref (107), .ref (108), .ref (109), .int (nI ((mG (msG T 5 0) 0) + 1)), .int (nI (mG (msG T 5 0) 1)), .int (nI (mG (msG T 5 0) 2)), .int (nI (mG (msG T 5 0) 3)), .int (nI (mG (msG T 5 0) 4)), .int (nI (mG (msG T 5 0) 5)), .int (nI (mG (msG T 5 0) 6))])).set (102) (pm_I 14 (va_up (fun j => nI (mA (msG (msG T 5 0) 0 (mG T 0 + 1)) 6 j)) (mG T 0) (nI k)))).set (108) (pm_I 42 (va_up (mQ (msA (msG (msG T 5 0) 0 (mG T 0 + 1)) 6 (mG T 0) k) 12) (mG T 0 * 3) (a)))).set (108) (pm_I 42 (va_up (mQ (msQ (msA (msG (msG T 5 0) 0 (mG T 0 + 1)) 6 (mG T 0) k) 12 (mG T 0 * 3) a) 12) (mG T 0 * 3 + 1) (b)))).set (108) (pm_I 42 (va_up (mQ (msQ (msQ (msA (msG (msG T 5 0) 0 (mG T 0 + 1)) 6 (mG T 0) k) 12 (mG T 0 * 3) a) 12 (mG T 0 * 3 + 1) b) 12) (mG T 0 * 3 + 2) (c)))).set (103) (pm_I 14 (va_up (fun j => nI (mA (msQ (msQ (msQ (msA (msG (msG T 5 0) 0 (mG T 0 + 1)) 6 (mG T 0) k) 12 (mG T 0 * 3) a) 12 (mG T 0 * 3 + 1) b) 12 (mG T 0 * 3 + 2) c) 7 j)) (mG T 0) (nI j)))).set (104) (pm_I 14 (va_up (mQ (msA (msQ (msQ (msQ (msA (msG (msG T 5 0) 0 (mG T 0 + 1)) 6 (mG T 0) k) 12 (mG T 0 * 3) a) 12 (mG T 0 * 3 + 1) b) 12 (mG T 0 * 3 + 2) c) 7 (mG T 0) j) 8) (mG T 0) (p)))) := H_55.Q8 (j := mG T 0) (v := p)
      refine px (fun _ => pm_aload_n (pc := 245) d_Mo_node_245 rfl) ?_
      refine px (fun _ => pm_getf fl_Mo_38 (pc := 246) d_Mo_node_246 H_56.1 rfl) ?_
      refine px (fun _ => pm_iload (pc := 249) d_Mo_node_249 rfl) ?_
      refine px (fun _ => pm_iload (pc := 251) d_Mo_node_251 rfl) ?_
      refine px (fun _ => pm_iast (j := mG T 0) (pc := 253) d_Mo_node_253 H_56.2.2.2.2.2.2.2.2.2.2.1 (rfl) (hn) (by decide)) ?_
      have H_57 : mH (msQ (msQ (msA (msQ (msQ (msQ (msA (msG (msG T 5 0) 0 (mG T 0 + 1)) 6 (mG T 0) k) 12 (mG T 0 * 3) a) 12 (mG T 0 * 3 + 1) b) 12 (mG T 0 * 3 + 2) c) 7 (mG T 0) j) 8 (mG T 0) p) 9 (mG T 0) q) (((((((((h.set (95) (pm_Ob 4 [.ref (96), .ref (97), .ref (98), .ref (99), .ref (100), .ref (101), .ref (102), .ref (103), .ref (104), .ref (105), .ref (106), .ref (107), .ref (108), .ref (109), .int (nI (mG T 0)), .int (nI (mG T 1)), .int (nI (mG T 2)), .int (nI (mG T 3)), .int (nI (mG T 4)), .int (0), .int (nI (mG T 6))])).set (95) (pm_Ob 4 [.ref (96), .ref (97), .ref (98), .ref (99), .ref (100), .ref (101), .ref (102), .ref (103), .ref (104), .ref (105), .ref (106), .ref (107), .ref (108), .ref (109), .int (nI ((mG (msG T 5 0) 0) + 1)), .int (nI (mG (msG T 5 0) 1)), .int (nI (mG (msG T 5 0) 2)), .int (nI (mG (msG T 5 0) 3)), .int (nI (mG (msG T 5 0) 4)), .int (nI (mG (msG T 5 0) 5)), .int (nI (mG (msG T 5 0) 6))])).set (102) (pm_I 14 (va_up (fun j => nI (mA (msG (msG T 5 0) 0 (mG T 0 + 1)) 6 j)) (mG T 0) (nI k)))).set (108) (pm_I 42 (va_up (mQ (msA (msG (msG T 5 0) 0 (mG T 0 + 1)) 6 (mG T 0) k) 12) (mG T 0 * 3) (a)))).set (108) (pm_I 42 (va_up (mQ (msQ (msA (msG (msG T 5 0) 0 (mG T 0 + 1)) 6 (mG T 0) k) 12 (mG T 0 * 3) a) 12) (mG T 0 * 3 + 1) (b)))).set (108) (pm_I 42 (va_up (mQ (msQ (msQ (msA (msG (msG T 5 0) 0 (mG T 0 + 1)) 6 (mG T 0) k) 12 (mG T 0 * 3) a) 12 (mG T 0 * 3 + 1) b) 12) (mG T 0 * 3 + 2) (c)))).set (103) (pm_I 14 (va_up (fun j => nI (mA (msQ (msQ (msQ (msA (msG (msG T 5 0) 0 (mG T 0 + 1)) 6 (mG T 0) k) 12 (mG T 0 * 3) a) 12 (mG T 0 * 3 + 1) b) 12 (mG T 0 * 3 + 2) c) 7 j)) (mG T 0) (nI j)))).set (104) (pm_I 14 (va_up (mQ (msA (msQ (msQ (msQ (msA (msG (msG T 5 0) 0 (mG T 0 + 1)) 6 (mG T 0) k) 12 (mG T 0 * 3) a) 12 (mG T 0 * 3 + 1) b) 12 (mG T 0 * 3 + 2) c) 7 (mG T 0) j) 8) (mG T 0) (p)))).set (105) (pm_I 14 (va_up (mQ (msQ (msA (msQ (msQ (msQ (msA (msG (msG T 5 0) 0 (mG T 0 + 1)) 6 (mG T 0) k) 12 (mG T 0 * 3) a) 12 (mG T 0 * 3 + 1) b) 12 (mG T 0 * 3 + 2) c) 7 (mG T 0) j) 8 (mG T 0) p) 9) (mG T 0) (q)))) := H_56.Q9 (j := mG T 0) (v := q)
      refine px (fun _ => pm_aload_n (pc := 254) d_Mo_node_254 rfl) ?_
      refine px (fun _ => pm_getf fl_Mo_7 (pc := 255) d_Mo_node_255 H_57.1 rfl) ?_
      refine px (fun _ => pm_iload (pc := 258) d_Mo_node_258 rfl) ?_
      refine px (fun _ => pm_iconst (v := 3) (pc := 260) d_Mo_node_260 rfl) ?_
      refine px (fun _ => pm_iast (j := j) (pc := 261) d_Mo_node_261 H_57.2.1 (rfl) (hj) (by decide)) ?_
      have H_58 : mH (msA (msQ (msQ (msA (msQ (msQ (msQ (msA (msG (msG T 5 0) 0 (mG T 0 + 1)) 6 (mG T 0) k) 12 (mG T 0 * 3) a) 12 (mG T 0 * 3 + 1) b) 12 (mG T 0 * 3 + 2) c) 7 (mG T 0) j) 8 (mG T 0) p) 9 (mG T 0) q) 0 j 3) ((((((((((h.set (95) (pm_Ob 4 [.ref (96), .ref (97), .ref (98), .ref (99), .ref (100), .ref (101), .ref (102), .ref (103), .ref (104), .ref (105), .ref (106), .ref (107), .ref (108), .ref (109), .int (nI (mG T 0)), .int (nI (mG T 1)), .int (nI (mG T 2)), .int (nI (mG T 3)), .int (nI (mG T 4)), .int (0), .int (nI (mG T 6))])).set (95) (pm_Ob 4 [.ref (96), .ref (97), .ref (98), .ref (99), .ref (100), .ref (101), .ref (102), .ref (103), .ref (104), .ref (105), .ref (106), .ref (107), .ref (108), .ref (109), .int (nI ((mG (msG T 5 0) 0) + 1)), .int (nI (mG (msG T 5 0) 1)), .int (nI (mG (msG T 5 0) 2)), .int (nI (mG (msG T 5 0) 3)), .int (nI (mG (msG T 5 0) 4)), .int (nI (mG (msG T 5 0) 5)), .int (nI (mG (msG T 5 0) 6))])).set (102) (pm_I 14 (va_up (fun j => nI (mA (msG (msG T 5 0) 0 (mG T 0 + 1)) 6 j)) (mG T 0) (nI k)))).set (108) (pm_I 42 (va_up (mQ (msA (msG (msG T 5 0) 0 (mG T 0 + 1)) 6 (mG T 0) k) 12) (mG T 0 * 3) (a)))).set (108) (pm_I 42 (va_up (mQ (msQ (msA (msG (msG T 5 0) 0 (mG T 0 + 1)) 6 (mG T 0) k) 12 (mG T 0 * 3) a) 12) (mG T 0 * 3 + 1) (b)))).set (108) (pm_I 42 (va_up (mQ (msQ (msQ (msA (msG (msG T 5 0) 0 (mG T 0 + 1)) 6 (mG T 0) k) 12 (mG T 0 * 3) a) 12 (mG T 0 * 3 + 1) b) 12) (mG T 0 * 3 + 2) (c)))).set (103) (pm_I 14 (va_up (fun j => nI (mA (msQ (msQ (msQ (msA (msG (msG T 5 0) 0 (mG T 0 + 1)) 6 (mG T 0) k) 12 (mG T 0 * 3) a) 12 (mG T 0 * 3 + 1) b) 12 (mG T 0 * 3 + 2) c) 7 j)) (mG T 0) (nI j)))).set (104) (pm_I 14 (va_up (mQ (msA (msQ (msQ (msQ (msA (msG (msG T 5 0) 0 (mG T 0 + 1)) 6 (mG T 0) k) 12 (mG T 0 * 3) a) 12 (mG T 0 * 3 + 1) b) 12 (mG T 0 * 3 + 2) c) 7 (mG T 0) j) 8) (mG T 0) (p)))).set (105) (pm_I 14 (va_up (mQ (msQ (msA (msQ (msQ (msQ (msA (msG (msG T 5 0) 0 (mG T 0 + 1)) 6 (mG T 0) k) 12 (mG T 0 * 3) a) 12 (mG T 0 * 3 + 1) b) 12 (mG T 0 * 3 + 2) c) 7 (mG T 0) j) 8 (mG T 0) p) 9) (mG T 0) (q)))).set (96) (pm_I 20 (va_up (fun j => nI (mA (msQ (msQ (msA (msQ (msQ (msQ (msA (msG (msG T 5 0) 0 (mG T 0 + 1)) 6 (mG T 0) k) 12 (mG T 0 * 3) a) 12 (mG T 0 * 3 + 1) b) 12 (mG T 0 * 3 + 2) c) 7 (mG T 0) j) 8 (mG T 0) p) 9 (mG T 0) q) 0 j)) (j) (3)))) := H_57.A0 (j := j) (v := 3)
      refine px (fun _ => pm_aload_n (pc := 262) d_Mo_node_262 rfl) ?_
      refine px (fun _ => pm_getf fl_Mo_22 (pc := 263) d_Mo_node_263 H_58.1 rfl) ?_
      refine px (fun _ => pm_iload (pc := 266) d_Mo_node_266 rfl) ?_
      refine px (fun _ => pm_iload (pc := 268) d_Mo_node_268 rfl) ?_
      refine px (fun _ => pm_iast (j := j) (pc := 270) d_Mo_node_270 H_58.2.2.2.2.2.1 (rfl) (hj) (by decide)) ?_
      have H_59 : mH (msA (msA (msQ (msQ (msA (msQ (msQ (msQ (msA (msG (msG T 5 0) 0 (mG T 0 + 1)) 6 (mG T 0) k) 12 (mG T 0 * 3) a) 12 (mG T 0 * 3 + 1) b) 12 (mG T 0 * 3 + 2) c) 7 (mG T 0) j) 8 (mG T 0) p) 9 (mG T 0) q) 0 j 3) 4 j (mG T 0)) (((((((((((h.set (95) (pm_Ob 4 [.ref (96), .ref (97), .ref (98), .ref (99), .ref (100), .ref (101), .ref (102), .ref (103), .ref (104), .ref (105), .ref (106), .ref (107), .ref (108), .ref (109), .int (nI (mG T 0)), .int (nI (mG T 1)), .int (nI (mG T 2)), .int (nI (mG T 3)), .int (nI (mG T 4)), .int (0), .int (nI (mG T 6))])).set (95) (pm_Ob 4 [.ref (96), .ref (97), .ref (98), .ref (99), .ref (100), .ref (101), .ref (102), .ref (103), .ref (104), .ref (105), .ref (106), .ref (107), .ref (108), .ref (109), .int (nI ((mG (msG T 5 0) 0) + 1)), .int (nI (mG (msG T 5 0) 1)), .int (nI (mG (msG T 5 0) 2)), .int (nI (mG (msG T 5 0) 3)), .int (nI (mG (msG T 5 0) 4)), .int (nI (mG (msG T 5 0) 5)), .int (nI (mG (msG T 5 0) 6))])).set (102) (pm_I 14 (va_up (fun j => nI (mA (msG (msG T 5 0) 0 (mG T 0 + 1)) 6 j)) (mG T 0) (nI k)))).set (108) (pm_I 42 (va_up (mQ (msA (msG (msG T 5 0) 0 (mG T 0 + 1)) 6 (mG T 0) k) 12) (mG T 0 * 3) (a)))).set (108) (pm_I 42 (va_up (mQ (msQ (msA (msG (msG T 5 0) 0 (mG T 0 + 1)) 6 (mG T 0) k) 12 (mG T 0 * 3) a) 12) (mG T 0 * 3 + 1) (b)))).set (108) (pm_I 42 (va_up (mQ (msQ (msQ (msA (msG (msG T 5 0) 0 (mG T 0 + 1)) 6 (mG T 0) k) 12 (mG T 0 * 3) a) 12 (mG T 0 * 3 + 1) b) 12) (mG T 0 * 3 + 2) (c)))).set (103) (pm_I 14 (va_up (fun j => nI (mA (msQ (msQ (msQ (msA (msG (msG T 5 0) 0 (mG T 0 + 1)) 6 (mG T 0) k) 12 (mG T 0 * 3) a) 12 (mG T 0 * 3 + 1) b) 12 (mG T 0 * 3 + 2) c) 7 j)) (mG T 0) (nI j)))).set (104) (pm_I 14 (va_up (mQ (msA (msQ (msQ (msQ (msA (msG (msG T 5 0) 0 (mG T 0 + 1)) 6 (mG T 0) k) 12 (mG T 0 * 3) a) 12 (mG T 0 * 3 + 1) b) 12 (mG T 0 * 3 + 2) c) 7 (mG T 0) j) 8) (mG T 0) (p)))).set (105) (pm_I 14 (va_up (mQ (msQ (msA (msQ (msQ (msQ (msA (msG (msG T 5 0) 0 (mG T 0 + 1)) 6 (mG T 0) k) 12 (mG T 0 * 3) a) 12 (mG T 0 * 3 + 1) b) 12 (mG T 0 * 3 + 2) c) 7 (mG T 0) j) 8 (mG T 0) p) 9) (mG T 0) (q)))).set (96) (pm_I 20 (va_up (fun j => nI (mA (msQ (msQ (msA (msQ (msQ (msQ (msA (msG (msG T 5 0) 0 (mG T 0 + 1)) 6 (mG T 0) k) 12 (mG T 0 * 3) a) 12 (mG T 0 * 3 + 1) b) 12 (mG T 0 * 3 + 2) c) 7 (mG T 0) j) 8 (mG T 0) p) 9 (mG T 0) q) 0 j)) (j) (3)))).set (100) (pm_I 20 (va_up (fun j => nI (mA (msA (msQ (msQ (msA (msQ (msQ (msQ (msA (msG (msG T 5 0) 0 (mG T 0 + 1)) 6 (mG T 0) k) 12 (mG T 0 * 3) a) 12 (mG T 0 * 3 + 1) b) 12 (mG T 0 * 3 + 2) c) 7 (mG T 0) j) 8 (mG T 0) p) 9 (mG T 0) q) 0 j 3) 4 j)) (j) (nI (mG (msG T 5 0) 0))))) := H_58.A4 (j := j) (v := mG T 0)
      refine px (fun _ => pm_aload_n (pc := 271) d_Mo_node_271 rfl) ?_
      obtain ⟨⟨o60, h60⟩, ⟨e60, H60, F60⟩, en60⟩ := m_change (l := l) (G := G) (fi := fi) (T := msA (msA (msQ (msQ (msA (msQ (msQ (msQ (msA (msG (msG T 5 0) 0 (mG T 0 + 1)) 6 (mG T 0) k) 12 (mG T 0 * 3) a) 12 (mG T 0 * 3 + 1) b) 12 (mG T 0 * 3 + 2) c) 7 (mG T 0) j) 8 (mG T 0) p) 9 (mG T 0) q) 0 j 3) 4 j (mG T 0)) hl H_59
      dsimp only at e60 H60 F60
      subst e60
      refine px (fun _ => k_Mo_node_272 (kc1 := 0) (ks1 := 0) (kc := 0) (ks := 0) (av := []) (st := []) H_59.1 (en60) rfl rfl (Nat.le_of_ble_eq_true rfl)) ?_
      refine px (fun _ => pm_iload (pc := 275) d_Mo_node_275 rfl) ?_
      exact pxr (pm_iret (pc := 277) d_Mo_node_277 rfl rfl) ⟨rfl, H60, ((mFr.set _ _ (by omega))).tr (((mFr.set _ _ (by omega))).tr (((mFr.set _ _ (by omega))).tr (((mFr.set _ _ (by omega))).tr (((mFr.set _ _ (by omega))).tr (((mFr.set _ _ (by omega))).tr (((mFr.set _ _ (by omega))).tr (((mFr.set _ _ (by omega))).tr (((mFr.set _ _ (by omega))).tr (((mFr.set _ _ (by omega))).tr (((mFr.set _ _ (by omega))).tr (F60)))))))))))⟩
    · have n_c_44 : ¬ ((m_ar k) ≤ 2) := fun zq => c_44 ((nI_leI (a := (m_ar k)) (b := 2) (by omega) (by omega)).mpr zq)
      refine px (fun _ => pm_aload_n (pc := 110) d_Mo_node_110 rfl) ?_
      refine px (fun _ => pm_iload (pc := 111) d_Mo_node_111 rfl) ?_
      refine px (fun _ => k_Mo_node_113 (kc1 := 0) (ks1 := 0) (kc := 0) (ks := 0) (av := [.int (c)]) (st := []) H.1 (m_ns_s hl H (hc.resolve_left (fun q => by omega)).2) rfl rfl (Nat.le_of_ble_eq_true rfl)) ?_
      refine pxb (fun _ => pm_if_eq (pc := 116) (tgt := 132) d_Mo_node_116 (by decide)) (fun c_61 => ?_) (fun c_61 => absurd (by decide) c_61)
      refine px (fun _ => pm_iconst (v := 0) (pc := 132) d_Mo_node_132 rfl) ?_
      refine px (fun _ => pm_istore (lv' := [(8, .int (0)), (0, .ref (95)), (1, .int (nI k)), (2, .int (a)), (3, .int (b)), (4, .int (c)), (5, .int (nI j)), (6, .int (p)), (7, .int (q))]) (pc := 133) d_Mo_node_133 (by decide) rfl) ?_
      refine px (fun _ => pm_aload_n (pc := 135) d_Mo_node_135 rfl) ?_
      refine px (fun _ => pm_iload (pc := 136) d_Mo_node_136 rfl) ?_
      refine pxb (fun _ => pm_if_eq (pc := 138) (tgt := 145) d_Mo_node_138 (by decide)) (fun c_62 => ?_) (fun c_62 => absurd (by decide) c_62)
      refine px (fun _ => pm_aload_n (pc := 145) d_Mo_node_145 rfl) ?_
      refine px (fun _ => pm_getf fl_Mo_82 (pc := 146) d_Mo_node_146 H.1 rfl) ?_
      refine px (fun _ => pm_bipush (v := 14) (pc := 149) d_Mo_node_149 rfl) ?_
      refine pxn (fun _ => pm_icmp_ne (pc := 151) (tgt := 158) d_Mo_node_151 (by decide)) (fun c_63 => ?_) (fun c_63 => absurd c_63 (fun q => absurd ((nI_eq (a := mG T 0) (b := 14) (by omega) (by omega)).mp q) (by omega)))
      refine px (fun _ => pm_iconst (v := 0) (pc := 158) d_Mo_node_158 rfl) ?_
      refine px (fun _ => pm_putfC (c' := pm_Ob 4 [.ref (96), .ref (97), .ref (98), .ref (99), .ref (100), .ref (101), .ref (102), .ref (103), .ref (104), .ref (105), .ref (106), .ref (107), .ref (108), .ref (109), .int (nI (mG T 0)), .int (nI (mG T 1)), .int (nI (mG T 2)), .int (nI (mG T 3)), .int (nI (mG T 4)), .int (0), .int (nI (mG T 6))]) fp_Mo_57 (pc := 159) d_Mo_node_159 H.1 (Nat.le_of_ble_eq_true rfl) rfl rfl rfl) ?_
      have H_64 : mH (msG T 5 0) (h.set (95) (pm_Ob 4 [.ref (96), .ref (97), .ref (98), .ref (99), .ref (100), .ref (101), .ref (102), .ref (103), .ref (104), .ref (105), .ref (106), .ref (107), .ref (108), .ref (109), .int (nI (mG T 0)), .int (nI (mG T 1)), .int (nI (mG T 2)), .int (nI (mG T 3)), .int (nI (mG T 4)), .int (0), .int (nI (mG T 6))])) := H.G5 (v := 0)
      refine px (fun _ => pm_aload_n (pc := 162) d_Mo_node_162 rfl) ?_
      refine px (fun _ => pm_getf fl_Mo_57 (pc := 163) d_Mo_node_163 H_64.1 rfl) ?_
      refine pxb (fun _ => pm_if_eq (pc := 166) (tgt := 171) d_Mo_node_166 (by decide)) (fun c_65 => ?_) (fun c_65 => absurd (rfl) c_65)
      refine px (fun _ => pm_aload_n (pc := 171) d_Mo_node_171 rfl) ?_
      refine px (fun _ => pm_dup (pc := 172) d_Mo_node_172 rfl) ?_
      refine px (fun _ => pm_getf fl_Mo_82 (pc := 173) d_Mo_node_173 H_64.1 rfl) ?_
      refine px (fun _ => pm_dup_x1 (pc := 176) d_Mo_node_176 rfl rfl) ?_
      refine px (fun _ => pm_iconst (v := 1) (pc := 177) d_Mo_node_177 rfl) ?_
      refine px (fun _ => pm_iaddN (a := (mG (msG T 5 0) 0)) (b := 1) (pc := 178) d_Mo_node_178) ?_
      refine px (fun _ => pm_putfC (c' := pm_Ob 4 [.ref (96), .ref (97), .ref (98), .ref (99), .ref (100), .ref (101), .ref (102), .ref (103), .ref (104), .ref (105), .ref (106), .ref (107), .ref (108), .ref (109), .int (nI ((mG (msG T 5 0) 0) + 1)), .int (nI (mG (msG T 5 0) 1)), .int (nI (mG (msG T 5 0) 2)), .int (nI (mG (msG T 5 0) 3)), .int (nI (mG (msG T 5 0) 4)), .int (nI (mG (msG T 5 0) 5)), .int (nI (mG (msG T 5 0) 6))]) fp_Mo_82 (pc := 179) d_Mo_node_179 H_64.1 (Nat.le_of_ble_eq_true rfl) rfl rfl rfl) ?_
      have H_66 : mH (msG (msG T 5 0) 0 (mG T 0 + 1)) ((h.set (95) (pm_Ob 4 [.ref (96), .ref (97), .ref (98), .ref (99), .ref (100), .ref (101), .ref (102), .ref (103), .ref (104), .ref (105), .ref (106), .ref (107), .ref (108), .ref (109), .int (nI (mG T 0)), .int (nI (mG T 1)), .int (nI (mG T 2)), .int (nI (mG T 3)), .int (nI (mG T 4)), .int (0), .int (nI (mG T 6))])).set (95) (pm_Ob 4 [.ref (96), .ref (97), .ref (98), .ref (99), .ref (100), .ref (101), .ref (102), .ref (103), .ref (104), .ref (105), .ref (106), .ref (107), .ref (108), .ref (109), .int (nI ((mG (msG T 5 0) 0) + 1)), .int (nI (mG (msG T 5 0) 1)), .int (nI (mG (msG T 5 0) 2)), .int (nI (mG (msG T 5 0) 3)), .int (nI (mG (msG T 5 0) 4)), .int (nI (mG (msG T 5 0) 5)), .int (nI (mG (msG T 5 0) 6))])) := H_64.G0 (v := mG T 0 + 1)
      refine px (fun _ => pm_istore (lv' := [(9, .int (nI (mG (msG T 5 0) 0))), (8, .int (0)), (0, .ref (95)), (1, .int (nI k)), (2, .int (a)), (3, .int (b)), (4, .int (c)), (5, .int (nI j)), (6, .int (p)), (7, .int (q))]) (pc := 182) d_Mo_node_182 (by decide) rfl) ?_
      refine px (fun _ => pm_aload_n (pc := 184) d_Mo_node_184 rfl) ?_
      refine px (fun _ => pm_getf fl_Mo_29 (pc := 185) d_Mo_node_185 H_66.1 rfl) ?_
      refine px (fun _ => pm_iload (pc := 188) d_Mo_node_188 rfl) ?_
      refine px (fun _ => pm_iload_n (pc := 190) d_Mo_node_190 rfl) ?_
      refine px (fun _ => pm_iast (j := mG T 0) (pc := 191) d_Mo_node_191 H_66.2.2.2.2.2.2.2.1 (rfl) (hn) (by decide)) ?_
      have H_67 : mH (msA (msG (msG T 5 0) 0 (mG T 0 + 1)) 6 (mG T 0) k) (((h.set (95) (pm_Ob 4 [.ref (96), .ref (97), .ref (98), .ref (99), .ref (100), .ref (101), .ref (102), .ref (103), .ref (104), .ref (105), .ref (106), .ref (107), .ref (108), .ref (109), .int (nI (mG T 0)), .int (nI (mG T 1)), .int (nI (mG T 2)), .int (nI (mG T 3)), .int (nI (mG T 4)), .int (0), .int (nI (mG T 6))])).set (95) (pm_Ob 4 [.ref (96), .ref (97), .ref (98), .ref (99), .ref (100), .ref (101), .ref (102), .ref (103), .ref (104), .ref (105), .ref (106), .ref (107), .ref (108), .ref (109), .int (nI ((mG (msG T 5 0) 0) + 1)), .int (nI (mG (msG T 5 0) 1)), .int (nI (mG (msG T 5 0) 2)), .int (nI (mG (msG T 5 0) 3)), .int (nI (mG (msG T 5 0) 4)), .int (nI (mG (msG T 5 0) 5)), .int (nI (mG (msG T 5 0) 6))])).set (102) (pm_I 14 (va_up (fun j => nI (mA (msG (msG T 5 0) 0 (mG T 0 + 1)) 6 j)) (mG T 0) (nI k)))) := H_66.A6 (j := mG T 0) (v := k)
      refine px (fun _ => pm_aload_n (pc := 192) d_Mo_node_192 rfl) ?_
      refine px (fun _ => pm_getf fl_Mo_47 (pc := 193) d_Mo_node_193 H_67.1 rfl) ?_
      refine px (fun _ => pm_iload (pc := 196) d_Mo_node_196 rfl) ?_
      refine px (fun _ => pm_iconst (v := 3) (pc := 198) d_Mo_node_198 rfl) ?_
      refine px (fun _ => pm_imulN (a := (mG (msG T 5 0) 0)) (b := 3) (pc := 199) d_Mo_node_199) ?_
      refine px (fun _ => pm_iload_n (pc := 200) d_Mo_node_200 rfl) ?_
      refine px (fun _ => pm_iast (j := mG T 0 * 3) (pc := 201) d_Mo_node_201 H_67.2.2.2.2.2.2.2.2.2.2.2.2.2.1 (rfl) (by omega) (by decide)) ?_
      have H_68 : mH (msQ (msA (msG (msG T 5 0) 0 (mG T 0 + 1)) 6 (mG T 0) k) 12 (mG T 0 * 3) a) ((((h.set (95) (pm_Ob 4 [.ref (96), .ref (97), .ref (98), .ref (99), .ref (100), .ref (101), .ref (102), .ref (103), .ref (104), .ref (105), .ref (106), .ref (107), .ref (108), .ref (109), .int (nI (mG T 0)), .int (nI (mG T 1)), .int (nI (mG T 2)), .int (nI (mG T 3)), .int (nI (mG T 4)), .int (0), .int (nI (mG T 6))])).set (95) (pm_Ob 4 [.ref (96), .ref (97), .ref (98), .ref (99), .ref (100), .ref (101), .ref (102), .ref (103), .ref (104), .ref (105), .ref (106), .ref (107), .ref (108), .ref (109), .int (nI ((mG (msG T 5 0) 0) + 1)), .int (nI (mG (msG T 5 0) 1)), .int (nI (mG (msG T 5 0) 2)), .int (nI (mG (msG T 5 0) 3)), .int (nI (mG (msG T 5 0) 4)), .int (nI (mG (msG T 5 0) 5)), .int (nI (mG (msG T 5 0) 6))])).set (102) (pm_I 14 (va_up (fun j => nI (mA (msG (msG T 5 0) 0 (mG T 0 + 1)) 6 j)) (mG T 0) (nI k)))).set (108) (pm_I 42 (va_up (mQ (msA (msG (msG T 5 0) 0 (mG T 0 + 1)) 6 (mG T 0) k) 12) (mG T 0 * 3) (a)))) := H_67.Q12 (j := mG T 0 * 3) (v := a)
      refine px (fun _ => pm_aload_n (pc := 202) d_Mo_node_202 rfl) ?_
      refine px (fun _ => pm_getf fl_Mo_47 (pc := 203) d_Mo_node_203 H_68.1 rfl) ?_
      refine px (fun _ => pm_iload (pc := 206) d_Mo_node_206 rfl) ?_
      refine px (fun _ => pm_iconst (v := 3) (pc := 208) d_Mo_node_208 rfl) ?_
      refine px (fun _ => pm_imulN (a := (mG (msG T 5 0) 0)) (b := 3) (pc := 209) d_Mo_node_209) ?_
      refine px (fun _ => pm_iconst (v := 1) (pc := 210) d_Mo_node_210 rfl) ?_
      refine px (fun _ => pm_iaddN (a := ((mG (msG T 5 0) 0) * 3)) (b := 1) (pc := 211) d_Mo_node_211) ?_
      refine px (fun _ => pm_iload_n (pc := 212) d_Mo_node_212 rfl) ?_
      refine px (fun _ => pm_iast (j := mG T 0 * 3 + 1) (pc := 213) d_Mo_node_213 H_68.2.2.2.2.2.2.2.2.2.2.2.2.2.1 (rfl) (by omega) (by decide)) ?_
      have H_69 : mH (msQ (msQ (msA (msG (msG T 5 0) 0 (mG T 0 + 1)) 6 (mG T 0) k) 12 (mG T 0 * 3) a) 12 (mG T 0 * 3 + 1) b) (((((h.set (95) (pm_Ob 4 [.ref (96), .ref (97), .ref (98), .ref (99), .ref (100), .ref (101), .ref (102), .ref (103), .ref (104), .ref (105), .ref (106), .ref (107), .ref (108), .ref (109), .int (nI (mG T 0)), .int (nI (mG T 1)), .int (nI (mG T 2)), .int (nI (mG T 3)), .int (nI (mG T 4)), .int (0), .int (nI (mG T 6))])).set (95) (pm_Ob 4 [.ref (96), .ref (97), .ref (98), .ref (99), .ref (100), .ref (101), .ref (102), .ref (103), .ref (104), .ref (105), .ref (106), .ref (107), .ref (108), .ref (109), .int (nI ((mG (msG T 5 0) 0) + 1)), .int (nI (mG (msG T 5 0) 1)), .int (nI (mG (msG T 5 0) 2)), .int (nI (mG (msG T 5 0) 3)), .int (nI (mG (msG T 5 0) 4)), .int (nI (mG (msG T 5 0) 5)), .int (nI (mG (msG T 5 0) 6))])).set (102) (pm_I 14 (va_up (fun j => nI (mA (msG (msG T 5 0) 0 (mG T 0 + 1)) 6 j)) (mG T 0) (nI k)))).set (108) (pm_I 42 (va_up (mQ (msA (msG (msG T 5 0) 0 (mG T 0 + 1)) 6 (mG T 0) k) 12) (mG T 0 * 3) (a)))).set (108) (pm_I 42 (va_up (mQ (msQ (msA (msG (msG T 5 0) 0 (mG T 0 + 1)) 6 (mG T 0) k) 12 (mG T 0 * 3) a) 12) (mG T 0 * 3 + 1) (b)))) := H_68.Q12 (j := mG T 0 * 3 + 1) (v := b)
      refine px (fun _ => pm_aload_n (pc := 214) d_Mo_node_214 rfl) ?_
      refine px (fun _ => pm_getf fl_Mo_47 (pc := 215) d_Mo_node_215 H_69.1 rfl) ?_
      refine px (fun _ => pm_iload (pc := 218) d_Mo_node_218 rfl) ?_
      refine px (fun _ => pm_iconst (v := 3) (pc := 220) d_Mo_node_220 rfl) ?_
      refine px (fun _ => pm_imulN (a := (mG (msG T 5 0) 0)) (b := 3) (pc := 221) d_Mo_node_221) ?_
      refine px (fun _ => pm_iconst (v := 2) (pc := 222) d_Mo_node_222 rfl) ?_
      refine px (fun _ => pm_iaddN (a := ((mG (msG T 5 0) 0) * 3)) (b := 2) (pc := 223) d_Mo_node_223) ?_
      refine px (fun _ => pm_iload (pc := 224) d_Mo_node_224 rfl) ?_
      refine px (fun _ => pm_iast (j := mG T 0 * 3 + 2) (pc := 226) d_Mo_node_226 H_69.2.2.2.2.2.2.2.2.2.2.2.2.2.1 (rfl) (by omega) (by decide)) ?_
      have H_70 : mH (msQ (msQ (msQ (msA (msG (msG T 5 0) 0 (mG T 0 + 1)) 6 (mG T 0) k) 12 (mG T 0 * 3) a) 12 (mG T 0 * 3 + 1) b) 12 (mG T 0 * 3 + 2) c) ((((((h.set (95) (pm_Ob 4 [.ref (96), .ref (97), .ref (98), .ref (99), .ref (100), .ref (101), .ref (102), .ref (103), .ref (104), .ref (105), .ref (106), .ref (107), .ref (108), .ref (109), .int (nI (mG T 0)), .int (nI (mG T 1)), .int (nI (mG T 2)), .int (nI (mG T 3)), .int (nI (mG T 4)), .int (0), .int (nI (mG T 6))])).set (95) (pm_Ob 4 [.ref (96), .ref (97), .ref (98), .ref (99), .ref (100), .ref (101), .ref (102), .ref (103), .ref (104), .ref (105), .ref (106), .ref (107), .ref (108), .ref (109), .int (nI ((mG (msG T 5 0) 0) + 1)), .int (nI (mG (msG T 5 0) 1)), .int (nI (mG (msG T 5 0) 2)), .int (nI (mG (msG T 5 0) 3)), .int (nI (mG (msG T 5 0) 4)), .int (nI (mG (msG T 5 0) 5)), .int (nI (mG (msG T 5 0) 6))])).set (102) (pm_I 14 (va_up (fun j => nI (mA (msG (msG T 5 0) 0 (mG T 0 + 1)) 6 j)) (mG T 0) (nI k)))).set (108) (pm_I 42 (va_up (mQ (msA (msG (msG T 5 0) 0 (mG T 0 + 1)) 6 (mG T 0) k) 12) (mG T 0 * 3) (a)))).set (108) (pm_I 42 (va_up (mQ (msQ (msA (msG (msG T 5 0) 0 (mG T 0 + 1)) 6 (mG T 0) k) 12 (mG T 0 * 3) a) 12) (mG T 0 * 3 + 1) (b)))).set (108) (pm_I 42 (va_up (mQ (msQ (msQ (msA (msG (msG T 5 0) 0 (mG T 0 + 1)) 6 (mG T 0) k) 12 (mG T 0 * 3) a) 12 (mG T 0 * 3 + 1) b) 12) (mG T 0 * 3 + 2) (c)))) := H_69.Q12 (j := mG T 0 * 3 + 2) (v := c)
      refine px (fun _ => pm_aload_n (pc := 227) d_Mo_node_227 rfl) ?_
      refine px (fun _ => pm_getf fl_Mo_32 (pc := 228) d_Mo_node_228 H_70.1 rfl) ?_
      refine px (fun _ => pm_iload (pc := 231) d_Mo_node_231 rfl) ?_
      refine px (fun _ => pm_iload (pc := 233) d_Mo_node_233 rfl) ?_
      refine px (fun _ => pm_iast (j := mG T 0) (pc := 235) d_Mo_node_235 H_70.2.2.2.2.2.2.2.2.1 (rfl) (hn) (by decide)) ?_
      have H_71 : mH (msA (msQ (msQ (msQ (msA (msG (msG T 5 0) 0 (mG T 0 + 1)) 6 (mG T 0) k) 12 (mG T 0 * 3) a) 12 (mG T 0 * 3 + 1) b) 12 (mG T 0 * 3 + 2) c) 7 (mG T 0) j) (((((((h.set (95) (pm_Ob 4 [.ref (96), .ref (97), .ref (98), .ref (99), .ref (100), .ref (101), .ref (102), .ref (103), .ref (104), .ref (105), .ref (106), .ref (107), .ref (108), .ref (109), .int (nI (mG T 0)), .int (nI (mG T 1)), .int (nI (mG T 2)), .int (nI (mG T 3)), .int (nI (mG T 4)), .int (0), .int (nI (mG T 6))])).set (95) (pm_Ob 4 [.ref (96), .ref (97), .ref (98), .ref (99), .ref (100), .ref (101), .ref (102), .ref (103), .ref (104), .ref (105), .ref (106), .ref (107), .ref (108), .ref (109), .int (nI ((mG (msG T 5 0) 0) + 1)), .int (nI (mG (msG T 5 0) 1)), .int (nI (mG (msG T 5 0) 2)), .int (nI (mG (msG T 5 0) 3)), .int (nI (mG (msG T 5 0) 4)), .int (nI (mG (msG T 5 0) 5)), .int (nI (mG (msG T 5 0) 6))])).set (102) (pm_I 14 (va_up (fun j => nI (mA (msG (msG T 5 0) 0 (mG T 0 + 1)) 6 j)) (mG T 0) (nI k)))).set (108) (pm_I 42 (va_up (mQ (msA (msG (msG T 5 0) 0 (mG T 0 + 1)) 6 (mG T 0) k) 12) (mG T 0 * 3) (a)))).set (108) (pm_I 42 (va_up (mQ (msQ (msA (msG (msG T 5 0) 0 (mG T 0 + 1)) 6 (mG T 0) k) 12 (mG T 0 * 3) a) 12) (mG T 0 * 3 + 1) (b)))).set (108) (pm_I 42 (va_up (mQ (msQ (msQ (msA (msG (msG T 5 0) 0 (mG T 0 + 1)) 6 (mG T 0) k) 12 (mG T 0 * 3) a) 12 (mG T 0 * 3 + 1) b) 12) (mG T 0 * 3 + 2) (c)))).set (103) (pm_I 14 (va_up (fun j => nI (mA (msQ (msQ (msQ (msA (msG (msG T 5 0) 0 (mG T 0 + 1)) 6 (mG T 0) k) 12 (mG T 0 * 3) a) 12 (mG T 0 * 3 + 1) b) 12 (mG T 0 * 3 + 2) c) 7 j)) (mG T 0) (nI j)))) := H_70.A7 (j := mG T 0) (v := j)
      refine px (fun _ => pm_aload_n (pc := 236) d_Mo_node_236 rfl) ?_
      refine px (fun _ => pm_getf fl_Mo_35 (pc := 237) d_Mo_node_237 H_71.1 rfl) ?_
      refine px (fun _ => pm_iload (pc := 240) d_Mo_node_240 rfl) ?_
      refine px (fun _ => pm_iload (pc := 242) d_Mo_node_242 rfl) ?_
      refine px (fun _ => pm_iast (j := mG T 0) (pc := 244) d_Mo_node_244 H_71.2.2.2.2.2.2.2.2.2.1 (rfl) (hn) (by decide)) ?_
      have H_72 : mH (msQ (msA (msQ (msQ (msQ (msA (msG (msG T 5 0) 0 (mG T 0 + 1)) 6 (mG T 0) k) 12 (mG T 0 * 3) a) 12 (mG T 0 * 3 + 1) b) 12 (mG T 0 * 3 + 2) c) 7 (mG T 0) j) 8 (mG T 0) p) ((((((((h.set (95) (pm_Ob 4 [.ref (96), .ref (97), .ref (98), .ref (99), .ref (100), .ref (101), .ref (102), .ref (103), .ref (104), .ref (105), .ref (106), .ref (107), .ref (108), .ref (109), .int (nI (mG T 0)), .int (nI (mG T 1)), .int (nI (mG T 2)), .int (nI (mG T 3)), .int (nI (mG T 4)), .int (0), .int (nI (mG T 6))])).set (95) (pm_Ob 4 [.ref (96), .ref (97), .ref (98), .ref (99), .ref (100), .ref (101), .ref (102), .ref (103), .ref (104), .ref (105), .ref (106), .ref (107), .ref (108), .ref (109), .int (nI ((mG (msG T 5 0) 0) + 1)), .int (nI (mG (msG T 5 0) 1)), .int (nI (mG (msG T 5 0) 2)), .int (nI (mG (msG T 5 0) 3)), .int (nI (mG (msG T 5 0) 4)), .int (nI (mG (msG T 5 0) 5)), .int (nI (mG (msG T 5 0) 6))])).set (102) (pm_I 14 (va_up (fun j => nI (mA (msG (msG T 5 0) 0 (mG T 0 + 1)) 6 j)) (mG T 0) (nI k)))).set (108) (pm_I 42 (va_up (mQ (msA (msG (msG T 5 0) 0 (mG T 0 + 1)) 6 (mG T 0) k) 12) (mG T 0 * 3) (a)))).set (108) (pm_I 42 (va_up (mQ (msQ (msA (msG (msG T 5 0) 0 (mG T 0 + 1)) 6 (mG T 0) k) 12 (mG T 0 * 3) a) 12) (mG T 0 * 3 + 1) (b)))).set (108) (pm_I 42 (va_up (mQ (msQ (msQ (msA (msG (msG T 5 0) 0 (mG T 0 + 1)) 6 (mG T 0) k) 12 (mG T 0 * 3) a) 12 (mG T 0 * 3 + 1) b) 12) (mG T 0 * 3 + 2) (c)))).set (103) (pm_I 14 (va_up (fun j => nI (mA (msQ (msQ (msQ (msA (msG (msG T 5 0) 0 (mG T 0 + 1)) 6 (mG T 0) k) 12 (mG T 0 * 3) a) 12 (mG T 0 * 3 + 1) b) 12 (mG T 0 * 3 + 2) c) 7 j)) (mG T 0) (nI j)))).set (104) (pm_I 14 (va_up (mQ (msA (msQ (msQ (msQ (msA (msG (msG T 5 0) 0 (mG T 0 + 1)) 6 (mG T 0) k) 12 (mG T 0 * 3) a) 12 (mG T 0 * 3 + 1) b) 12 (mG T 0 * 3 + 2) c) 7 (mG T 0) j) 8) (mG T 0) (p)))) := H_71.Q8 (j := mG T 0) (v := p)
      refine px (fun _ => pm_aload_n (pc := 245) d_Mo_node_245 rfl) ?_
      refine px (fun _ => pm_getf fl_Mo_38 (pc := 246) d_Mo_node_246 H_72.1 rfl) ?_
      refine px (fun _ => pm_iload (pc := 249) d_Mo_node_249 rfl) ?_
      refine px (fun _ => pm_iload (pc := 251) d_Mo_node_251 rfl) ?_
      refine px (fun _ => pm_iast (j := mG T 0) (pc := 253) d_Mo_node_253 H_72.2.2.2.2.2.2.2.2.2.2.1 (rfl) (hn) (by decide)) ?_
      have H_73 : mH (msQ (msQ (msA (msQ (msQ (msQ (msA (msG (msG T 5 0) 0 (mG T 0 + 1)) 6 (mG T 0) k) 12 (mG T 0 * 3) a) 12 (mG T 0 * 3 + 1) b) 12 (mG T 0 * 3 + 2) c) 7 (mG T 0) j) 8 (mG T 0) p) 9 (mG T 0) q) (((((((((h.set (95) (pm_Ob 4 [.ref (96), .ref (97), .ref (98), .ref (99), .ref (100), .ref (101), .ref (102), .ref (103), .ref (104), .ref (105), .ref (106), .ref (107), .ref (108), .ref (109), .int (nI (mG T 0)), .int (nI (mG T 1)), .int (nI (mG T 2)), .int (nI (mG T 3)), .int (nI (mG T 4)), .int (0), .int (nI (mG T 6))])).set (95) (pm_Ob 4 [.ref (96), .ref (97), .ref (98), .ref (99), .ref (100), .ref (101), .ref (102), .ref (103), .ref (104), .ref (105), .ref (106), .ref (107), .ref (108), .ref (109), .int (nI ((mG (msG T 5 0) 0) + 1)), .int (nI (mG (msG T 5 0) 1)), .int (nI (mG (msG T 5 0) 2)), .int (nI (mG (msG T 5 0) 3)), .int (nI (mG (msG T 5 0) 4)), .int (nI (mG (msG T 5 0) 5)), .int (nI (mG (msG T 5 0) 6))])).set (102) (pm_I 14 (va_up (fun j => nI (mA (msG (msG T 5 0) 0 (mG T 0 + 1)) 6 j)) (mG T 0) (nI k)))).set (108) (pm_I 42 (va_up (mQ (msA (msG (msG T 5 0) 0 (mG T 0 + 1)) 6 (mG T 0) k) 12) (mG T 0 * 3) (a)))).set (108) (pm_I 42 (va_up (mQ (msQ (msA (msG (msG T 5 0) 0 (mG T 0 + 1)) 6 (mG T 0) k) 12 (mG T 0 * 3) a) 12) (mG T 0 * 3 + 1) (b)))).set (108) (pm_I 42 (va_up (mQ (msQ (msQ (msA (msG (msG T 5 0) 0 (mG T 0 + 1)) 6 (mG T 0) k) 12 (mG T 0 * 3) a) 12 (mG T 0 * 3 + 1) b) 12) (mG T 0 * 3 + 2) (c)))).set (103) (pm_I 14 (va_up (fun j => nI (mA (msQ (msQ (msQ (msA (msG (msG T 5 0) 0 (mG T 0 + 1)) 6 (mG T 0) k) 12 (mG T 0 * 3) a) 12 (mG T 0 * 3 + 1) b) 12 (mG T 0 * 3 + 2) c) 7 j)) (mG T 0) (nI j)))).set (104) (pm_I 14 (va_up (mQ (msA (msQ (msQ (msQ (msA (msG (msG T 5 0) 0 (mG T 0 + 1)) 6 (mG T 0) k) 12 (mG T 0 * 3) a) 12 (mG T 0 * 3 + 1) b) 12 (mG T 0 * 3 + 2) c) 7 (mG T 0) j) 8) (mG T 0) (p)))).set (105) (pm_I 14 (va_up (mQ (msQ (msA (msQ (msQ (msQ (msA (msG (msG T 5 0) 0 (mG T 0 + 1)) 6 (mG T 0) k) 12 (mG T 0 * 3) a) 12 (mG T 0 * 3 + 1) b) 12 (mG T 0 * 3 + 2) c) 7 (mG T 0) j) 8 (mG T 0) p) 9) (mG T 0) (q)))) := H_72.Q9 (j := mG T 0) (v := q)
      refine px (fun _ => pm_aload_n (pc := 254) d_Mo_node_254 rfl) ?_
      refine px (fun _ => pm_getf fl_Mo_7 (pc := 255) d_Mo_node_255 H_73.1 rfl) ?_
      refine px (fun _ => pm_iload (pc := 258) d_Mo_node_258 rfl) ?_
      refine px (fun _ => pm_iconst (v := 3) (pc := 260) d_Mo_node_260 rfl) ?_
      refine px (fun _ => pm_iast (j := j) (pc := 261) d_Mo_node_261 H_73.2.1 (rfl) (hj) (by decide)) ?_
      have H_74 : mH (msA (msQ (msQ (msA (msQ (msQ (msQ (msA (msG (msG T 5 0) 0 (mG T 0 + 1)) 6 (mG T 0) k) 12 (mG T 0 * 3) a) 12 (mG T 0 * 3 + 1) b) 12 (mG T 0 * 3 + 2) c) 7 (mG T 0) j) 8 (mG T 0) p) 9 (mG T 0) q) 0 j 3) ((((((((((h.set (95) (pm_Ob 4 [.ref (96), .ref (97), .ref (98), .ref (99), .ref (100), .ref (101), .ref (102), .ref (103), .ref (104), .ref (105), .ref (106), .ref (107), .ref (108), .ref (109), .int (nI (mG T 0)), .int (nI (mG T 1)), .int (nI (mG T 2)), .int (nI (mG T 3)), .int (nI (mG T 4)), .int (0), .int (nI (mG T 6))])).set (95) (pm_Ob 4 [.ref (96), .ref (97), .ref (98), .ref (99), .ref (100), .ref (101), .ref (102), .ref (103), .ref (104), .ref (105), .ref (106), .ref (107), .ref (108), .ref (109), .int (nI ((mG (msG T 5 0) 0) + 1)), .int (nI (mG (msG T 5 0) 1)), .int (nI (mG (msG T 5 0) 2)), .int (nI (mG (msG T 5 0) 3)), .int (nI (mG (msG T 5 0) 4)), .int (nI (mG (msG T 5 0) 5)), .int (nI (mG (msG T 5 0) 6))])).set (102) (pm_I 14 (va_up (fun j => nI (mA (msG (msG T 5 0) 0 (mG T 0 + 1)) 6 j)) (mG T 0) (nI k)))).set (108) (pm_I 42 (va_up (mQ (msA (msG (msG T 5 0) 0 (mG T 0 + 1)) 6 (mG T 0) k) 12) (mG T 0 * 3) (a)))).set (108) (pm_I 42 (va_up (mQ (msQ (msA (msG (msG T 5 0) 0 (mG T 0 + 1)) 6 (mG T 0) k) 12 (mG T 0 * 3) a) 12) (mG T 0 * 3 + 1) (b)))).set (108) (pm_I 42 (va_up (mQ (msQ (msQ (msA (msG (msG T 5 0) 0 (mG T 0 + 1)) 6 (mG T 0) k) 12 (mG T 0 * 3) a) 12 (mG T 0 * 3 + 1) b) 12) (mG T 0 * 3 + 2) (c)))).set (103) (pm_I 14 (va_up (fun j => nI (mA (msQ (msQ (msQ (msA (msG (msG T 5 0) 0 (mG T 0 + 1)) 6 (mG T 0) k) 12 (mG T 0 * 3) a) 12 (mG T 0 * 3 + 1) b) 12 (mG T 0 * 3 + 2) c) 7 j)) (mG T 0) (nI j)))).set (104) (pm_I 14 (va_up (mQ (msA (msQ (msQ (msQ (msA (msG (msG T 5 0) 0 (mG T 0 + 1)) 6 (mG T 0) k) 12 (mG T 0 * 3) a) 12 (mG T 0 * 3 + 1) b) 12 (mG T 0 * 3 + 2) c) 7 (mG T 0) j) 8) (mG T 0) (p)))).set (105) (pm_I 14 (va_up (mQ (msQ (msA (msQ (msQ (msQ (msA (msG (msG T 5 0) 0 (mG T 0 + 1)) 6 (mG T 0) k) 12 (mG T 0 * 3) a) 12 (mG T 0 * 3 + 1) b) 12 (mG T 0 * 3 + 2) c) 7 (mG T 0) j) 8 (mG T 0) p) 9) (mG T 0) (q)))).set (96) (pm_I 20 (va_up (fun j => nI (mA (msQ (msQ (msA (msQ (msQ (msQ (msA (msG (msG T 5 0) 0 (mG T 0 + 1)) 6 (mG T 0) k) 12 (mG T 0 * 3) a) 12 (mG T 0 * 3 + 1) b) 12 (mG T 0 * 3 + 2) c) 7 (mG T 0) j) 8 (mG T 0) p) 9 (mG T 0) q) 0 j)) (j) (3)))) := H_73.A0 (j := j) (v := 3)
      refine px (fun _ => pm_aload_n (pc := 262) d_Mo_node_262 rfl) ?_
      refine px (fun _ => pm_getf fl_Mo_22 (pc := 263) d_Mo_node_263 H_74.1 rfl) ?_
      refine px (fun _ => pm_iload (pc := 266) d_Mo_node_266 rfl) ?_
      refine px (fun _ => pm_iload (pc := 268) d_Mo_node_268 rfl) ?_
      refine px (fun _ => pm_iast (j := j) (pc := 270) d_Mo_node_270 H_74.2.2.2.2.2.1 (rfl) (hj) (by decide)) ?_
      have H_75 : mH (msA (msA (msQ (msQ (msA (msQ (msQ (msQ (msA (msG (msG T 5 0) 0 (mG T 0 + 1)) 6 (mG T 0) k) 12 (mG T 0 * 3) a) 12 (mG T 0 * 3 + 1) b) 12 (mG T 0 * 3 + 2) c) 7 (mG T 0) j) 8 (mG T 0) p) 9 (mG T 0) q) 0 j 3) 4 j (mG T 0)) (((((((((((h.set (95) (pm_Ob 4 [.ref (96), .ref (97), .ref (98), .ref (99), .ref (100), .ref (101), .ref (102), .ref (103), .ref (104), .ref (105), .ref (106), .ref (107), .ref (108), .ref (109), .int (nI (mG T 0)), .int (nI (mG T 1)), .int (nI (mG T 2)), .int (nI (mG T 3)), .int (nI (mG T 4)), .int (0), .int (nI (mG T 6))])).set (95) (pm_Ob 4 [.ref (96), .ref (97), .ref (98), .ref (99), .ref (100), .ref (101), .ref (102), .ref (103), .ref (104), .ref (105), .ref (106), .ref (107), .ref (108), .ref (109), .int (nI ((mG (msG T 5 0) 0) + 1)), .int (nI (mG (msG T 5 0) 1)), .int (nI (mG (msG T 5 0) 2)), .int (nI (mG (msG T 5 0) 3)), .int (nI (mG (msG T 5 0) 4)), .int (nI (mG (msG T 5 0) 5)), .int (nI (mG (msG T 5 0) 6))])).set (102) (pm_I 14 (va_up (fun j => nI (mA (msG (msG T 5 0) 0 (mG T 0 + 1)) 6 j)) (mG T 0) (nI k)))).set (108) (pm_I 42 (va_up (mQ (msA (msG (msG T 5 0) 0 (mG T 0 + 1)) 6 (mG T 0) k) 12) (mG T 0 * 3) (a)))).set (108) (pm_I 42 (va_up (mQ (msQ (msA (msG (msG T 5 0) 0 (mG T 0 + 1)) 6 (mG T 0) k) 12 (mG T 0 * 3) a) 12) (mG T 0 * 3 + 1) (b)))).set (108) (pm_I 42 (va_up (mQ (msQ (msQ (msA (msG (msG T 5 0) 0 (mG T 0 + 1)) 6 (mG T 0) k) 12 (mG T 0 * 3) a) 12 (mG T 0 * 3 + 1) b) 12) (mG T 0 * 3 + 2) (c)))).set (103) (pm_I 14 (va_up (fun j => nI (mA (msQ (msQ (msQ (msA (msG (msG T 5 0) 0 (mG T 0 + 1)) 6 (mG T 0) k) 12 (mG T 0 * 3) a) 12 (mG T 0 * 3 + 1) b) 12 (mG T 0 * 3 + 2) c) 7 j)) (mG T 0) (nI j)))).set (104) (pm_I 14 (va_up (mQ (msA (msQ (msQ (msQ (msA (msG (msG T 5 0) 0 (mG T 0 + 1)) 6 (mG T 0) k) 12 (mG T 0 * 3) a) 12 (mG T 0 * 3 + 1) b) 12 (mG T 0 * 3 + 2) c) 7 (mG T 0) j) 8) (mG T 0) (p)))).set (105) (pm_I 14 (va_up (mQ (msQ (msA (msQ (msQ (msQ (msA (msG (msG T 5 0) 0 (mG T 0 + 1)) 6 (mG T 0) k) 12 (mG T 0 * 3) a) 12 (mG T 0 * 3 + 1) b) 12 (mG T 0 * 3 + 2) c) 7 (mG T 0) j) 8 (mG T 0) p) 9) (mG T 0) (q)))).set (96) (pm_I 20 (va_up (fun j => nI (mA (msQ (msQ (msA (msQ (msQ (msQ (msA (msG (msG T 5 0) 0 (mG T 0 + 1)) 6 (mG T 0) k) 12 (mG T 0 * 3) a) 12 (mG T 0 * 3 + 1) b) 12 (mG T 0 * 3 + 2) c) 7 (mG T 0) j) 8 (mG T 0) p) 9 (mG T 0) q) 0 j)) (j) (3)))).set (100) (pm_I 20 (va_up (fun j => nI (mA (msA (msQ (msQ (msA (msQ (msQ (msQ (msA (msG (msG T 5 0) 0 (mG T 0 + 1)) 6 (mG T 0) k) 12 (mG T 0 * 3) a) 12 (mG T 0 * 3 + 1) b) 12 (mG T 0 * 3 + 2) c) 7 (mG T 0) j) 8 (mG T 0) p) 9 (mG T 0) q) 0 j 3) 4 j)) (j) (nI (mG (msG T 5 0) 0))))) := H_74.A4 (j := j) (v := mG T 0)
      refine px (fun _ => pm_aload_n (pc := 271) d_Mo_node_271 rfl) ?_
      obtain ⟨⟨o76, h76⟩, ⟨e76, H76, F76⟩, en76⟩ := m_change (l := l) (G := G) (fi := fi) (T := msA (msA (msQ (msQ (msA (msQ (msQ (msQ (msA (msG (msG T 5 0) 0 (mG T 0 + 1)) 6 (mG T 0) k) 12 (mG T 0 * 3) a) 12 (mG T 0 * 3 + 1) b) 12 (mG T 0 * 3 + 2) c) 7 (mG T 0) j) 8 (mG T 0) p) 9 (mG T 0) q) 0 j 3) 4 j (mG T 0)) hl H_75
      dsimp only at e76 H76 F76
      subst e76
      refine px (fun _ => k_Mo_node_272 (kc1 := 0) (ks1 := 0) (kc := 0) (ks := 0) (av := []) (st := []) H_75.1 (en76) rfl rfl (Nat.le_of_ble_eq_true rfl)) ?_
      refine px (fun _ => pm_iload (pc := 275) d_Mo_node_275 rfl) ?_
      exact pxr (pm_iret (pc := 277) d_Mo_node_277 rfl rfl) ⟨rfl, H76, ((mFr.set _ _ (by omega))).tr (((mFr.set _ _ (by omega))).tr (((mFr.set _ _ (by omega))).tr (((mFr.set _ _ (by omega))).tr (((mFr.set _ _ (by omega))).tr (((mFr.set _ _ (by omega))).tr (((mFr.set _ _ (by omega))).tr (((mFr.set _ _ (by omega))).tr (((mFr.set _ _ (by omega))).tr (((mFr.set _ _ (by omega))).tr (((mFr.set _ _ (by omega))).tr (F76)))))))))))⟩
