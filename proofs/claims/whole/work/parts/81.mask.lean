/-! ===== the model: get, slot, count ===== -/
theorem g_b00 {k : Nat} (h : k ≤ 1) (q : nI k = 0) : k = 0 := (nI_eq (a := k) (b := 0) (by omega) (by omega)).mp q
theorem g_b01 {k : Nat} (h : k ≤ 1) (q : ¬ nI k = 0) : k = 1 := by
  by_cases e : k = 0
  · exact absurd (by rw [e]; rfl) q
  · omega
theorem g_sub10 {w : Int32} {n : Nat} (hn : n ≤ 14) (h1 : ¬ w < 10) (h2 : ¬ nI n ≤ w - 10) : w < nI (10 + n) := by
  obtain ⟨j, hj, rfl⟩ := nI_of (x := w) (fun q => h1 (Int32.lt_trans q (by decide)))
  have h3 : ¬ j < 10 := fun q => h1 ((nI_ltI (a := j) (b := 10) hj (by omega)).mpr q)
  have e : nI j - 10 = nI (j - 10) := pk_sub (a := j) (b := 10) (by omega)
  rw [e] at h2
  have h4 : ¬ n ≤ j - 10 := fun q => h2 ((nI_leI (a := n) (b := j - 10) (by omega) (by omega)).mpr q)
  exact (nI_ltI (a := j) (b := 10 + n) hj (by omega)).mpr (by omega)
set_option maxHeartbeats 1000000 in
set_option maxRecDepth 20000 in
theorem m_get_b1 {l : Launch} {G : pm_G} {fi : Bool} {h : pm_H} {T : mS} {s i9 j9 : Int32} (hl : l.stackTraces = false) (H : mH T h) (hs : s < 0 ∨ 20 ≤ s) : pm_Cn l G fi fi 0 0 M_Mo_get [.ref (95), .int (s), .int (i9), .int (j9)] h (m_P (some (.double FP.dconst0)) (msG T 5 1) h) := by
  refine pm_Cn.of hl (by decide) (Nat.le_of_ble_eq_true rfl) ?_
  refine px (fun _ => pm_aload_n (pc := 0) d_Mo_get_0 rfl) ?_
  refine px (fun _ => pm_aload_n (pc := 1) d_Mo_get_1 rfl) ?_
  refine px (fun _ => pm_iload_n (pc := 2) d_Mo_get_2 rfl) ?_
  refine px (fun _ => k_Mo_get_3 (kc1 := 0) (ks1 := 0) (kc := 0) (ks := 0) (av := [.int (s)]) (st := [.ref (95)]) H.1 (m_ns_out hl H hs) rfl rfl (Nat.le_of_ble_eq_true rfl)) ?_
  refine pxb (fun _ => pm_if_eq (pc := 6) (tgt := 13) d_Mo_get_6 (by decide)) (fun c_1 => absurd c_1 (by decide)) (fun c_1 => ?_)
  refine px (fun _ => pm_iconst (v := 1) (pc := 9) d_Mo_get_9 rfl) ?_
  refine px (fun _ => pm_goto (tgt := 14) (pc := 10) d_Mo_get_10 (by decide)) ?_
  refine px (fun _ => pm_putfC (c' := pm_Ob 4 [.ref (96), .ref (97), .ref (98), .ref (99), .ref (100), .ref (101), .ref (102), .ref (103), .ref (104), .ref (105), .ref (106), .ref (107), .ref (108), .ref (109), .int (nI (mG T 0)), .int (nI (mG T 1)), .int (nI (mG T 2)), .int (nI (mG T 3)), .int (nI (mG T 4)), .int (1), .int (nI (mG T 6))]) fp_Mo_57 (pc := 14) d_Mo_get_14 H.1 (Nat.le_of_ble_eq_true rfl) rfl rfl rfl) ?_
  have H_2 : mH (msG T 5 1) (h.set (95) (pm_Ob 4 [.ref (96), .ref (97), .ref (98), .ref (99), .ref (100), .ref (101), .ref (102), .ref (103), .ref (104), .ref (105), .ref (106), .ref (107), .ref (108), .ref (109), .int (nI (mG T 0)), .int (nI (mG T 1)), .int (nI (mG T 2)), .int (nI (mG T 3)), .int (nI (mG T 4)), .int (1), .int (nI (mG T 6))])) := H.G5 (v := 1)
  refine px (fun _ => pm_aload_n (pc := 17) d_Mo_get_17 rfl) ?_
  refine px (fun _ => pm_getf fl_Mo_57 (pc := 18) d_Mo_get_18 H_2.1 rfl) ?_
  refine pxb (fun _ => pm_if_eq (pc := 21) (tgt := 26) d_Mo_get_21 (by decide)) (fun c_3 => absurd c_3 (fun q => absurd (show nI 1 = 0 from q) (by decide))) (fun c_3 => ?_)
  refine px (fun _ => pm_dconst0 (pc := 24) d_Mo_get_24) ?_
  exact pxr (pm_dret (pc := 25) d_Mo_get_25 rfl) ⟨rfl, H_2, (mFr.set _ _ (by omega))⟩
set_option maxHeartbeats 1000000 in
set_option maxRecDepth 20000 in
theorem m_get_n0 {l : Launch} {G : pm_G} {fi : Bool} {h : pm_H} {T : mS} {j : Nat} {i9 j9 : Int32} (hl : l.stackTraces = false) (H : mH T h) (hj : j < 20) (hkk : mA T 0 j = 0) : pm_Cn l G fi fi 0 0 M_Mo_get [.ref (95), .int (nI j), .int (i9), .int (j9)] h (m_P (some (.double FP.dconst0)) (msG (msG T 5 0) 5 2) h) := by
  refine pm_Cn.of hl (by decide) (Nat.le_of_ble_eq_true rfl) ?_
  refine px (fun _ => pm_aload_n (pc := 0) d_Mo_get_0 rfl) ?_
  refine px (fun _ => pm_aload_n (pc := 1) d_Mo_get_1 rfl) ?_
  refine px (fun _ => pm_iload_n (pc := 2) d_Mo_get_2 rfl) ?_
  refine px (fun _ => k_Mo_get_3 (kc1 := 0) (ks1 := 0) (kc := 0) (ks := 0) (av := [.int (nI j)]) (st := [.ref (95)]) H.1 (m_ns_in hl H hj) rfl rfl (Nat.le_of_ble_eq_true rfl)) ?_
  refine pxb (fun _ => pm_if_eq (pc := 6) (tgt := 13) d_Mo_get_6 (by decide)) (fun c_1 => ?_) (fun c_1 => absurd (by decide) c_1)
  refine px (fun _ => pm_iconst (v := 0) (pc := 13) d_Mo_get_13 rfl) ?_
  refine px (fun _ => pm_putfC (c' := pm_Ob 4 [.ref (96), .ref (97), .ref (98), .ref (99), .ref (100), .ref (101), .ref (102), .ref (103), .ref (104), .ref (105), .ref (106), .ref (107), .ref (108), .ref (109), .int (nI (mG T 0)), .int (nI (mG T 1)), .int (nI (mG T 2)), .int (nI (mG T 3)), .int (nI (mG T 4)), .int (0), .int (nI (mG T 6))]) fp_Mo_57 (pc := 14) d_Mo_get_14 H.1 (Nat.le_of_ble_eq_true rfl) rfl rfl rfl) ?_
  have H_2 : mH (msG T 5 0) (h.set (95) (pm_Ob 4 [.ref (96), .ref (97), .ref (98), .ref (99), .ref (100), .ref (101), .ref (102), .ref (103), .ref (104), .ref (105), .ref (106), .ref (107), .ref (108), .ref (109), .int (nI (mG T 0)), .int (nI (mG T 1)), .int (nI (mG T 2)), .int (nI (mG T 3)), .int (nI (mG T 4)), .int (0), .int (nI (mG T 6))])) := H.G5 (v := 0)
  refine px (fun _ => pm_aload_n (pc := 17) d_Mo_get_17 rfl) ?_
  refine px (fun _ => pm_getf fl_Mo_57 (pc := 18) d_Mo_get_18 H_2.1 rfl) ?_
  refine pxb (fun _ => pm_if_eq (pc := 21) (tgt := 26) d_Mo_get_21 (by decide)) (fun c_3 => ?_) (fun c_3 => absurd (rfl) c_3)
  refine px (fun _ => pm_aload_n (pc := 26) d_Mo_get_26 rfl) ?_
  refine px (fun _ => pm_getf fl_Mo_7 (pc := 27) d_Mo_get_27 H_2.1 rfl) ?_
  refine px (fun _ => pm_iload_n (pc := 30) d_Mo_get_30 rfl) ?_
  refine px (fun _ => pm_iald (j := j) (pc := 31) d_Mo_get_31 H_2.2.1 (rfl) (hj) (by decide)) ?_
  refine px (fun _ => pm_iconst (v := 1) (pc := 32) d_Mo_get_32 rfl) ?_
  refine pxb (fun _ => pm_icmp_eq (pc := 33) (tgt := 70) d_Mo_get_33 (by decide)) (fun c_4 => absurd c_4 (fun q => absurd (show nI (mA T 0 j) = 1 from q) (by rw [hkk]; decide))) (fun c_4 => ?_)
  refine px (fun _ => pm_aload_n (pc := 36) d_Mo_get_36 rfl) ?_
  refine px (fun _ => pm_getf fl_Mo_7 (pc := 37) d_Mo_get_37 H_2.1 rfl) ?_
  refine px (fun _ => pm_iload_n (pc := 40) d_Mo_get_40 rfl) ?_
  refine px (fun _ => pm_iald (j := j) (pc := 41) d_Mo_get_41 H_2.2.1 (rfl) (hj) (by decide)) ?_
  refine px (fun _ => pm_iconst (v := 2) (pc := 42) d_Mo_get_42 rfl) ?_
  refine pxb (fun _ => pm_icmp_eq (pc := 43) (tgt := 70) d_Mo_get_43 (by decide)) (fun c_5 => absurd c_5 (fun q => absurd (show nI (mA T 0 j) = 2 from q) (by rw [hkk]; decide))) (fun c_5 => ?_)
  refine px (fun _ => pm_aload_n (pc := 46) d_Mo_get_46 rfl) ?_
  refine px (fun _ => pm_getf fl_Mo_7 (pc := 47) d_Mo_get_47 H_2.1 rfl) ?_
  refine px (fun _ => pm_iload_n (pc := 50) d_Mo_get_50 rfl) ?_
  refine px (fun _ => pm_iald (j := j) (pc := 51) d_Mo_get_51 H_2.2.1 (rfl) (hj) (by decide)) ?_
  refine px (fun _ => pm_iconst (v := 3) (pc := 52) d_Mo_get_52 rfl) ?_
  refine pxn (fun _ => pm_icmp_ne (pc := 53) (tgt := 74) d_Mo_get_53 (by decide)) (fun c_6 => ?_) (fun c_6 => absurd c_6 (fun q => absurd (show nI (mA T 0 j) = 3 from q) (by rw [hkk]; decide)))
  refine px (fun _ => pm_iconst (v := 0) (pc := 74) d_Mo_get_74 rfl) ?_
  refine px (fun _ => pm_istore (lv' := [(4, .int (0)), (0, .ref (95)), (1, .int (nI j)), (2, .int (i9)), (3, .int (j9))]) (pc := 75) d_Mo_get_75 (by decide) rfl) ?_
  refine px (fun _ => pm_iload (pc := 77) d_Mo_get_77 rfl) ?_
  refine pxb (fun _ => pm_if_eq (pc := 79) (tgt := 110) d_Mo_get_79 (by decide)) (fun c_7 => ?_) (fun c_7 => absurd (by decide) c_7)
  refine px (fun _ => pm_aload_n (pc := 110) d_Mo_get_110 rfl) ?_
  refine px (fun _ => pm_iconst (v := 2) (pc := 111) d_Mo_get_111 rfl) ?_
  refine px (fun _ => pm_putfC (c' := pm_Ob 4 [.ref (96), .ref (97), .ref (98), .ref (99), .ref (100), .ref (101), .ref (102), .ref (103), .ref (104), .ref (105), .ref (106), .ref (107), .ref (108), .ref (109), .int (nI (mG (msG T 5 0) 0)), .int (nI (mG (msG T 5 0) 1)), .int (nI (mG (msG T 5 0) 2)), .int (nI (mG (msG T 5 0) 3)), .int (nI (mG (msG T 5 0) 4)), .int (2), .int (nI (mG (msG T 5 0) 6))]) fp_Mo_57 (pc := 112) d_Mo_get_112 H_2.1 (Nat.le_of_ble_eq_true rfl) rfl rfl rfl) ?_
  have H_8 : mH (msG (msG T 5 0) 5 2) ((h.set (95) (pm_Ob 4 [.ref (96), .ref (97), .ref (98), .ref (99), .ref (100), .ref (101), .ref (102), .ref (103), .ref (104), .ref (105), .ref (106), .ref (107), .ref (108), .ref (109), .int (nI (mG T 0)), .int (nI (mG T 1)), .int (nI (mG T 2)), .int (nI (mG T 3)), .int (nI (mG T 4)), .int (0), .int (nI (mG T 6))])).set (95) (pm_Ob 4 [.ref (96), .ref (97), .ref (98), .ref (99), .ref (100), .ref (101), .ref (102), .ref (103), .ref (104), .ref (105), .ref (106), .ref (107), .ref (108), .ref (109), .int (nI (mG (msG T 5 0) 0)), .int (nI (mG (msG T 5 0) 1)), .int (nI (mG (msG T 5 0) 2)), .int (nI (mG (msG T 5 0) 3)), .int (nI (mG (msG T 5 0) 4)), .int (2), .int (nI (mG (msG T 5 0) 6))])) := H_2.G5 (v := 2)
  refine px (fun _ => pm_dconst0 (pc := 115) d_Mo_get_115) ?_
  exact pxr (pm_dret (pc := 116) d_Mo_get_116 rfl) ⟨rfl, H_8, ((mFr.set _ _ (by omega))).tr ((mFr.set _ _ (by omega)))⟩
set_option maxHeartbeats 1000000 in
set_option maxRecDepth 20000 in
theorem m_get_n3 {l : Launch} {G : pm_G} {fi : Bool} {h : pm_H} {T : mS} {j : Nat} {i9 j9 : Int32} (hl : l.stackTraces = false) (H : mH T h) (hj : j < 20) (hkk : mA T 0 j = 3) (hm : mA T 4 j < 14) (hst : nI (mA T 10 (mA T 4 j)) = 0) : pm_Cn l G fi fi 0 0 M_Mo_get [.ref (95), .int (nI j), .int (i9), .int (j9)] h (m_P (some (.double FP.dconst0)) (msG (msG T 5 0) 5 2) h) := by
  refine pm_Cn.of hl (by decide) (Nat.le_of_ble_eq_true rfl) ?_
  refine px (fun _ => pm_aload_n (pc := 0) d_Mo_get_0 rfl) ?_
  refine px (fun _ => pm_aload_n (pc := 1) d_Mo_get_1 rfl) ?_
  refine px (fun _ => pm_iload_n (pc := 2) d_Mo_get_2 rfl) ?_
  refine px (fun _ => k_Mo_get_3 (kc1 := 0) (ks1 := 0) (kc := 0) (ks := 0) (av := [.int (nI j)]) (st := [.ref (95)]) H.1 (m_ns_in hl H hj) rfl rfl (Nat.le_of_ble_eq_true rfl)) ?_
  refine pxb (fun _ => pm_if_eq (pc := 6) (tgt := 13) d_Mo_get_6 (by decide)) (fun c_1 => ?_) (fun c_1 => absurd (by decide) c_1)
  refine px (fun _ => pm_iconst (v := 0) (pc := 13) d_Mo_get_13 rfl) ?_
  refine px (fun _ => pm_putfC (c' := pm_Ob 4 [.ref (96), .ref (97), .ref (98), .ref (99), .ref (100), .ref (101), .ref (102), .ref (103), .ref (104), .ref (105), .ref (106), .ref (107), .ref (108), .ref (109), .int (nI (mG T 0)), .int (nI (mG T 1)), .int (nI (mG T 2)), .int (nI (mG T 3)), .int (nI (mG T 4)), .int (0), .int (nI (mG T 6))]) fp_Mo_57 (pc := 14) d_Mo_get_14 H.1 (Nat.le_of_ble_eq_true rfl) rfl rfl rfl) ?_
  have H_2 : mH (msG T 5 0) (h.set (95) (pm_Ob 4 [.ref (96), .ref (97), .ref (98), .ref (99), .ref (100), .ref (101), .ref (102), .ref (103), .ref (104), .ref (105), .ref (106), .ref (107), .ref (108), .ref (109), .int (nI (mG T 0)), .int (nI (mG T 1)), .int (nI (mG T 2)), .int (nI (mG T 3)), .int (nI (mG T 4)), .int (0), .int (nI (mG T 6))])) := H.G5 (v := 0)
  refine px (fun _ => pm_aload_n (pc := 17) d_Mo_get_17 rfl) ?_
  refine px (fun _ => pm_getf fl_Mo_57 (pc := 18) d_Mo_get_18 H_2.1 rfl) ?_
  refine pxb (fun _ => pm_if_eq (pc := 21) (tgt := 26) d_Mo_get_21 (by decide)) (fun c_3 => ?_) (fun c_3 => absurd (rfl) c_3)
  refine px (fun _ => pm_aload_n (pc := 26) d_Mo_get_26 rfl) ?_
  refine px (fun _ => pm_getf fl_Mo_7 (pc := 27) d_Mo_get_27 H_2.1 rfl) ?_
  refine px (fun _ => pm_iload_n (pc := 30) d_Mo_get_30 rfl) ?_
  refine px (fun _ => pm_iald (j := j) (pc := 31) d_Mo_get_31 H_2.2.1 (rfl) (hj) (by decide)) ?_
  refine px (fun _ => pm_iconst (v := 1) (pc := 32) d_Mo_get_32 rfl) ?_
  refine pxb (fun _ => pm_icmp_eq (pc := 33) (tgt := 70) d_Mo_get_33 (by decide)) (fun c_4 => absurd c_4 (fun q => absurd (show nI (mA T 0 j) = 1 from q) (by rw [hkk]; decide))) (fun c_4 => ?_)
  refine px (fun _ => pm_aload_n (pc := 36) d_Mo_get_36 rfl) ?_
  refine px (fun _ => pm_getf fl_Mo_7 (pc := 37) d_Mo_get_37 H_2.1 rfl) ?_
  refine px (fun _ => pm_iload_n (pc := 40) d_Mo_get_40 rfl) ?_
  refine px (fun _ => pm_iald (j := j) (pc := 41) d_Mo_get_41 H_2.2.1 (rfl) (hj) (by decide)) ?_
  refine px (fun _ => pm_iconst (v := 2) (pc := 42) d_Mo_get_42 rfl) ?_
  refine pxb (fun _ => pm_icmp_eq (pc := 43) (tgt := 70) d_Mo_get_43 (by decide)) (fun c_5 => absurd c_5 (fun q => absurd (show nI (mA T 0 j) = 2 from q) (by rw [hkk]; decide))) (fun c_5 => ?_)
  refine px (fun _ => pm_aload_n (pc := 46) d_Mo_get_46 rfl) ?_
  refine px (fun _ => pm_getf fl_Mo_7 (pc := 47) d_Mo_get_47 H_2.1 rfl) ?_
  refine px (fun _ => pm_iload_n (pc := 50) d_Mo_get_50 rfl) ?_
  refine px (fun _ => pm_iald (j := j) (pc := 51) d_Mo_get_51 H_2.2.1 (rfl) (hj) (by decide)) ?_
  refine px (fun _ => pm_iconst (v := 3) (pc := 52) d_Mo_get_52 rfl) ?_
  refine pxn (fun _ => pm_icmp_ne (pc := 53) (tgt := 74) d_Mo_get_53 (by decide)) (fun c_6 => absurd (show nI (mA T 0 j) = 3 by rw [hkk]; rfl) c_6) (fun c_6 => ?_)
  refine px (fun _ => pm_aload_n (pc := 56) d_Mo_get_56 rfl) ?_
  refine px (fun _ => pm_getf fl_Mo_41 (pc := 57) d_Mo_get_57 H_2.1 rfl) ?_
  refine px (fun _ => pm_aload_n (pc := 60) d_Mo_get_60 rfl) ?_
  refine px (fun _ => pm_getf fl_Mo_22 (pc := 61) d_Mo_get_61 H_2.1 rfl) ?_
  refine px (fun _ => pm_iload_n (pc := 64) d_Mo_get_64 rfl) ?_
  refine px (fun _ => pm_iald (j := j) (pc := 65) d_Mo_get_65 H_2.2.2.2.2.2.1 (rfl) (hj) (by decide)) ?_
  refine px (fun _ => pm_iald (j := mA T 4 j) (pc := 66) d_Mo_get_66 H_2.2.2.2.2.2.2.2.2.2.2.2.1 (rfl) (hm) (by decide)) ?_
  refine pxb (fun _ => pm_if_eq (pc := 67) (tgt := 74) d_Mo_get_67 (by decide)) (fun c_7 => ?_) (fun c_7 => absurd (hst) c_7)
  refine px (fun _ => pm_iconst (v := 0) (pc := 74) d_Mo_get_74 rfl) ?_
  refine px (fun _ => pm_istore (lv' := [(4, .int (0)), (0, .ref (95)), (1, .int (nI j)), (2, .int (i9)), (3, .int (j9))]) (pc := 75) d_Mo_get_75 (by decide) rfl) ?_
  refine px (fun _ => pm_iload (pc := 77) d_Mo_get_77 rfl) ?_
  refine pxb (fun _ => pm_if_eq (pc := 79) (tgt := 110) d_Mo_get_79 (by decide)) (fun c_8 => ?_) (fun c_8 => absurd (by decide) c_8)
  refine px (fun _ => pm_aload_n (pc := 110) d_Mo_get_110 rfl) ?_
  refine px (fun _ => pm_iconst (v := 2) (pc := 111) d_Mo_get_111 rfl) ?_
  refine px (fun _ => pm_putfC (c' := pm_Ob 4 [.ref (96), .ref (97), .ref (98), .ref (99), .ref (100), .ref (101), .ref (102), .ref (103), .ref (104), .ref (105), .ref (106), .ref (107), .ref (108), .ref (109), .int (nI (mG (msG T 5 0) 0)), .int (nI (mG (msG T 5 0) 1)), .int (nI (mG (msG T 5 0) 2)), .int (nI (mG (msG T 5 0) 3)), .int (nI (mG (msG T 5 0) 4)), .int (2), .int (nI (mG (msG T 5 0) 6))]) fp_Mo_57 (pc := 112) d_Mo_get_112 H_2.1 (Nat.le_of_ble_eq_true rfl) rfl rfl rfl) ?_
  have H_9 : mH (msG (msG T 5 0) 5 2) ((h.set (95) (pm_Ob 4 [.ref (96), .ref (97), .ref (98), .ref (99), .ref (100), .ref (101), .ref (102), .ref (103), .ref (104), .ref (105), .ref (106), .ref (107), .ref (108), .ref (109), .int (nI (mG T 0)), .int (nI (mG T 1)), .int (nI (mG T 2)), .int (nI (mG T 3)), .int (nI (mG T 4)), .int (0), .int (nI (mG T 6))])).set (95) (pm_Ob 4 [.ref (96), .ref (97), .ref (98), .ref (99), .ref (100), .ref (101), .ref (102), .ref (103), .ref (104), .ref (105), .ref (106), .ref (107), .ref (108), .ref (109), .int (nI (mG (msG T 5 0) 0)), .int (nI (mG (msG T 5 0) 1)), .int (nI (mG (msG T 5 0) 2)), .int (nI (mG (msG T 5 0) 3)), .int (nI (mG (msG T 5 0) 4)), .int (2), .int (nI (mG (msG T 5 0) 6))])) := H_2.G5 (v := 2)
  refine px (fun _ => pm_dconst0 (pc := 115) d_Mo_get_115) ?_
  exact pxr (pm_dret (pc := 116) d_Mo_get_116 rfl) ⟨rfl, H_9, ((mFr.set _ _ (by omega))).tr ((mFr.set _ _ (by omega)))⟩
set_option maxHeartbeats 1000000 in
set_option maxRecDepth 20000 in
theorem m_get_m1 {l : Launch} {G : pm_G} {fi : Bool} {h : pm_H} {T : mS} {j : Nat} {i9 j9 : Int32} (hl : l.stackTraces = false) (H : mH T h) (hj : j < 20) (hkk : mA T 0 j = 1) (hb : ¬ (¬ i9 < 0 ∧ ¬ nI (mA T 2 j) ≤ i9 ∧ ¬ j9 < 0 ∧ ¬ nI (mA T 3 j) ≤ j9)) : pm_Cn l G fi fi 0 0 M_Mo_get [.ref (95), .int (nI j), .int (i9), .int (j9)] h (m_P (some (.double FP.dconst0)) (msG (msG T 5 0) 5 2) h) := by
  refine pm_Cn.of hl (by decide) (Nat.le_of_ble_eq_true rfl) ?_
  refine px (fun _ => pm_aload_n (pc := 0) d_Mo_get_0 rfl) ?_
  refine px (fun _ => pm_aload_n (pc := 1) d_Mo_get_1 rfl) ?_
  refine px (fun _ => pm_iload_n (pc := 2) d_Mo_get_2 rfl) ?_
  refine px (fun _ => k_Mo_get_3 (kc1 := 0) (ks1 := 0) (kc := 0) (ks := 0) (av := [.int (nI j)]) (st := [.ref (95)]) H.1 (m_ns_in hl H hj) rfl rfl (Nat.le_of_ble_eq_true rfl)) ?_
  refine pxb (fun _ => pm_if_eq (pc := 6) (tgt := 13) d_Mo_get_6 (by decide)) (fun c_1 => ?_) (fun c_1 => absurd (by decide) c_1)
  refine px (fun _ => pm_iconst (v := 0) (pc := 13) d_Mo_get_13 rfl) ?_
  refine px (fun _ => pm_putfC (c' := pm_Ob 4 [.ref (96), .ref (97), .ref (98), .ref (99), .ref (100), .ref (101), .ref (102), .ref (103), .ref (104), .ref (105), .ref (106), .ref (107), .ref (108), .ref (109), .int (nI (mG T 0)), .int (nI (mG T 1)), .int (nI (mG T 2)), .int (nI (mG T 3)), .int (nI (mG T 4)), .int (0), .int (nI (mG T 6))]) fp_Mo_57 (pc := 14) d_Mo_get_14 H.1 (Nat.le_of_ble_eq_true rfl) rfl rfl rfl) ?_
  have H_2 : mH (msG T 5 0) (h.set (95) (pm_Ob 4 [.ref (96), .ref (97), .ref (98), .ref (99), .ref (100), .ref (101), .ref (102), .ref (103), .ref (104), .ref (105), .ref (106), .ref (107), .ref (108), .ref (109), .int (nI (mG T 0)), .int (nI (mG T 1)), .int (nI (mG T 2)), .int (nI (mG T 3)), .int (nI (mG T 4)), .int (0), .int (nI (mG T 6))])) := H.G5 (v := 0)
  refine px (fun _ => pm_aload_n (pc := 17) d_Mo_get_17 rfl) ?_
  refine px (fun _ => pm_getf fl_Mo_57 (pc := 18) d_Mo_get_18 H_2.1 rfl) ?_
  refine pxb (fun _ => pm_if_eq (pc := 21) (tgt := 26) d_Mo_get_21 (by decide)) (fun c_3 => ?_) (fun c_3 => absurd (rfl) c_3)
  refine px (fun _ => pm_aload_n (pc := 26) d_Mo_get_26 rfl) ?_
  refine px (fun _ => pm_getf fl_Mo_7 (pc := 27) d_Mo_get_27 H_2.1 rfl) ?_
  refine px (fun _ => pm_iload_n (pc := 30) d_Mo_get_30 rfl) ?_
  refine px (fun _ => pm_iald (j := j) (pc := 31) d_Mo_get_31 H_2.2.1 (rfl) (hj) (by decide)) ?_
  refine px (fun _ => pm_iconst (v := 1) (pc := 32) d_Mo_get_32 rfl) ?_
  refine pxb (fun _ => pm_icmp_eq (pc := 33) (tgt := 70) d_Mo_get_33 (by decide)) (fun c_4 => ?_) (fun c_4 => absurd (show nI (mA T 0 j) = 1 by rw [hkk]; rfl) c_4)
  refine px (fun _ => pm_iconst (v := 1) (pc := 70) d_Mo_get_70 rfl) ?_
  refine px (fun _ => pm_goto (tgt := 75) (pc := 71) d_Mo_get_71 (by decide)) ?_
  refine px (fun _ => pm_istore (lv' := [(4, .int (1)), (0, .ref (95)), (1, .int (nI j)), (2, .int (i9)), (3, .int (j9))]) (pc := 75) d_Mo_get_75 (by decide) rfl) ?_
  refine px (fun _ => pm_iload (pc := 77) d_Mo_get_77 rfl) ?_
  refine pxb (fun _ => pm_if_eq (pc := 79) (tgt := 110) d_Mo_get_79 (by decide)) (fun c_5 => absurd c_5 (by decide)) (fun c_5 => ?_)
  refine px (fun _ => pm_iload_n (pc := 82) d_Mo_get_82 rfl) ?_
  refine pxb (fun _ => pm_if_lt (pc := 83) (tgt := 110) d_Mo_get_83 (by decide)) (fun c_6 => ?_) (fun c_6 => ?_)
  · refine px (fun _ => pm_aload_n (pc := 110) d_Mo_get_110 rfl) ?_
    refine px (fun _ => pm_iconst (v := 2) (pc := 111) d_Mo_get_111 rfl) ?_
    refine px (fun _ => pm_putfC (c' := pm_Ob 4 [.ref (96), .ref (97), .ref (98), .ref (99), .ref (100), .ref (101), .ref (102), .ref (103), .ref (104), .ref (105), .ref (106), .ref (107), .ref (108), .ref (109), .int (nI (mG (msG T 5 0) 0)), .int (nI (mG (msG T 5 0) 1)), .int (nI (mG (msG T 5 0) 2)), .int (nI (mG (msG T 5 0) 3)), .int (nI (mG (msG T 5 0) 4)), .int (2), .int (nI (mG (msG T 5 0) 6))]) fp_Mo_57 (pc := 112) d_Mo_get_112 H_2.1 (Nat.le_of_ble_eq_true rfl) rfl rfl rfl) ?_
    have H_7 : mH (msG (msG T 5 0) 5 2) ((h.set (95) (pm_Ob 4 [.ref (96), .ref (97), .ref (98), .ref (99), .ref (100), .ref (101), .ref (102), .ref (103), .ref (104), .ref (105), .ref (106), .ref (107), .ref (108), .ref (109), .int (nI (mG T 0)), .int (nI (mG T 1)), .int (nI (mG T 2)), .int (nI (mG T 3)), .int (nI (mG T 4)), .int (0), .int (nI (mG T 6))])).set (95) (pm_Ob 4 [.ref (96), .ref (97), .ref (98), .ref (99), .ref (100), .ref (101), .ref (102), .ref (103), .ref (104), .ref (105), .ref (106), .ref (107), .ref (108), .ref (109), .int (nI (mG (msG T 5 0) 0)), .int (nI (mG (msG T 5 0) 1)), .int (nI (mG (msG T 5 0) 2)), .int (nI (mG (msG T 5 0) 3)), .int (nI (mG (msG T 5 0) 4)), .int (2), .int (nI (mG (msG T 5 0) 6))])) := H_2.G5 (v := 2)
    refine px (fun _ => pm_dconst0 (pc := 115) d_Mo_get_115) ?_
    exact pxr (pm_dret (pc := 116) d_Mo_get_116 rfl) ⟨rfl, H_7, ((mFr.set _ _ (by omega))).tr ((mFr.set _ _ (by omega)))⟩
  · refine px (fun _ => pm_iload_n (pc := 86) d_Mo_get_86 rfl) ?_
    refine pxb (fun _ => pm_if_lt (pc := 87) (tgt := 110) d_Mo_get_87 (by decide)) (fun c_8 => ?_) (fun c_8 => ?_)
    · refine px (fun _ => pm_aload_n (pc := 110) d_Mo_get_110 rfl) ?_
      refine px (fun _ => pm_iconst (v := 2) (pc := 111) d_Mo_get_111 rfl) ?_
      refine px (fun _ => pm_putfC (c' := pm_Ob 4 [.ref (96), .ref (97), .ref (98), .ref (99), .ref (100), .ref (101), .ref (102), .ref (103), .ref (104), .ref (105), .ref (106), .ref (107), .ref (108), .ref (109), .int (nI (mG (msG T 5 0) 0)), .int (nI (mG (msG T 5 0) 1)), .int (nI (mG (msG T 5 0) 2)), .int (nI (mG (msG T 5 0) 3)), .int (nI (mG (msG T 5 0) 4)), .int (2), .int (nI (mG (msG T 5 0) 6))]) fp_Mo_57 (pc := 112) d_Mo_get_112 H_2.1 (Nat.le_of_ble_eq_true rfl) rfl rfl rfl) ?_
      have H_9 : mH (msG (msG T 5 0) 5 2) ((h.set (95) (pm_Ob 4 [.ref (96), .ref (97), .ref (98), .ref (99), .ref (100), .ref (101), .ref (102), .ref (103), .ref (104), .ref (105), .ref (106), .ref (107), .ref (108), .ref (109), .int (nI (mG T 0)), .int (nI (mG T 1)), .int (nI (mG T 2)), .int (nI (mG T 3)), .int (nI (mG T 4)), .int (0), .int (nI (mG T 6))])).set (95) (pm_Ob 4 [.ref (96), .ref (97), .ref (98), .ref (99), .ref (100), .ref (101), .ref (102), .ref (103), .ref (104), .ref (105), .ref (106), .ref (107), .ref (108), .ref (109), .int (nI (mG (msG T 5 0) 0)), .int (nI (mG (msG T 5 0) 1)), .int (nI (mG (msG T 5 0) 2)), .int (nI (mG (msG T 5 0) 3)), .int (nI (mG (msG T 5 0) 4)), .int (2), .int (nI (mG (msG T 5 0) 6))])) := H_2.G5 (v := 2)
      refine px (fun _ => pm_dconst0 (pc := 115) d_Mo_get_115) ?_
      exact pxr (pm_dret (pc := 116) d_Mo_get_116 rfl) ⟨rfl, H_9, ((mFr.set _ _ (by omega))).tr ((mFr.set _ _ (by omega)))⟩
    · refine px (fun _ => pm_iload_n (pc := 90) d_Mo_get_90 rfl) ?_
      refine px (fun _ => pm_aload_n (pc := 91) d_Mo_get_91 rfl) ?_
      refine px (fun _ => pm_getf fl_Mo_16 (pc := 92) d_Mo_get_92 H_2.1 rfl) ?_
      refine px (fun _ => pm_iload_n (pc := 95) d_Mo_get_95 rfl) ?_
      refine px (fun _ => pm_iald (j := j) (pc := 96) d_Mo_get_96 H_2.2.2.2.1 (rfl) (hj) (by decide)) ?_
      refine pxb (fun _ => pm_icmp_ge (pc := 97) (tgt := 110) d_Mo_get_97 (by decide)) (fun c_10 => ?_) (fun c_10 => ?_)
      · refine px (fun _ => pm_aload_n (pc := 110) d_Mo_get_110 rfl) ?_
        refine px (fun _ => pm_iconst (v := 2) (pc := 111) d_Mo_get_111 rfl) ?_
        refine px (fun _ => pm_putfC (c' := pm_Ob 4 [.ref (96), .ref (97), .ref (98), .ref (99), .ref (100), .ref (101), .ref (102), .ref (103), .ref (104), .ref (105), .ref (106), .ref (107), .ref (108), .ref (109), .int (nI (mG (msG T 5 0) 0)), .int (nI (mG (msG T 5 0) 1)), .int (nI (mG (msG T 5 0) 2)), .int (nI (mG (msG T 5 0) 3)), .int (nI (mG (msG T 5 0) 4)), .int (2), .int (nI (mG (msG T 5 0) 6))]) fp_Mo_57 (pc := 112) d_Mo_get_112 H_2.1 (Nat.le_of_ble_eq_true rfl) rfl rfl rfl) ?_
        have H_11 : mH (msG (msG T 5 0) 5 2) ((h.set (95) (pm_Ob 4 [.ref (96), .ref (97), .ref (98), .ref (99), .ref (100), .ref (101), .ref (102), .ref (103), .ref (104), .ref (105), .ref (106), .ref (107), .ref (108), .ref (109), .int (nI (mG T 0)), .int (nI (mG T 1)), .int (nI (mG T 2)), .int (nI (mG T 3)), .int (nI (mG T 4)), .int (0), .int (nI (mG T 6))])).set (95) (pm_Ob 4 [.ref (96), .ref (97), .ref (98), .ref (99), .ref (100), .ref (101), .ref (102), .ref (103), .ref (104), .ref (105), .ref (106), .ref (107), .ref (108), .ref (109), .int (nI (mG (msG T 5 0) 0)), .int (nI (mG (msG T 5 0) 1)), .int (nI (mG (msG T 5 0) 2)), .int (nI (mG (msG T 5 0) 3)), .int (nI (mG (msG T 5 0) 4)), .int (2), .int (nI (mG (msG T 5 0) 6))])) := H_2.G5 (v := 2)
        refine px (fun _ => pm_dconst0 (pc := 115) d_Mo_get_115) ?_
        exact pxr (pm_dret (pc := 116) d_Mo_get_116 rfl) ⟨rfl, H_11, ((mFr.set _ _ (by omega))).tr ((mFr.set _ _ (by omega)))⟩
      · refine px (fun _ => pm_iload_n (pc := 100) d_Mo_get_100 rfl) ?_
        refine px (fun _ => pm_aload_n (pc := 101) d_Mo_get_101 rfl) ?_
        refine px (fun _ => pm_getf fl_Mo_19 (pc := 102) d_Mo_get_102 H_2.1 rfl) ?_
        refine px (fun _ => pm_iload_n (pc := 105) d_Mo_get_105 rfl) ?_
        refine px (fun _ => pm_iald (j := j) (pc := 106) d_Mo_get_106 H_2.2.2.2.2.1 (rfl) (hj) (by decide)) ?_
        refine pxb (fun _ => pm_icmp_lt (pc := 107) (tgt := 117) d_Mo_get_107 (by decide)) (fun c_12 => ?_) (fun c_12 => ?_)
        · exact absurd ⟨by assumption, by assumption, by assumption, Int32.not_le.mpr (by assumption)⟩ hb
        · refine px (fun _ => pm_aload_n (pc := 110) d_Mo_get_110 rfl) ?_
          refine px (fun _ => pm_iconst (v := 2) (pc := 111) d_Mo_get_111 rfl) ?_
          refine px (fun _ => pm_putfC (c' := pm_Ob 4 [.ref (96), .ref (97), .ref (98), .ref (99), .ref (100), .ref (101), .ref (102), .ref (103), .ref (104), .ref (105), .ref (106), .ref (107), .ref (108), .ref (109), .int (nI (mG (msG T 5 0) 0)), .int (nI (mG (msG T 5 0) 1)), .int (nI (mG (msG T 5 0) 2)), .int (nI (mG (msG T 5 0) 3)), .int (nI (mG (msG T 5 0) 4)), .int (2), .int (nI (mG (msG T 5 0) 6))]) fp_Mo_57 (pc := 112) d_Mo_get_112 H_2.1 (Nat.le_of_ble_eq_true rfl) rfl rfl rfl) ?_
          have H_13 : mH (msG (msG T 5 0) 5 2) ((h.set (95) (pm_Ob 4 [.ref (96), .ref (97), .ref (98), .ref (99), .ref (100), .ref (101), .ref (102), .ref (103), .ref (104), .ref (105), .ref (106), .ref (107), .ref (108), .ref (109), .int (nI (mG T 0)), .int (nI (mG T 1)), .int (nI (mG T 2)), .int (nI (mG T 3)), .int (nI (mG T 4)), .int (0), .int (nI (mG T 6))])).set (95) (pm_Ob 4 [.ref (96), .ref (97), .ref (98), .ref (99), .ref (100), .ref (101), .ref (102), .ref (103), .ref (104), .ref (105), .ref (106), .ref (107), .ref (108), .ref (109), .int (nI (mG (msG T 5 0) 0)), .int (nI (mG (msG T 5 0) 1)), .int (nI (mG (msG T 5 0) 2)), .int (nI (mG (msG T 5 0) 3)), .int (nI (mG (msG T 5 0) 4)), .int (2), .int (nI (mG (msG T 5 0) 6))])) := H_2.G5 (v := 2)
          refine px (fun _ => pm_dconst0 (pc := 115) d_Mo_get_115) ?_
          exact pxr (pm_dret (pc := 116) d_Mo_get_116 rfl) ⟨rfl, H_13, ((mFr.set _ _ (by omega))).tr ((mFr.set _ _ (by omega)))⟩
set_option maxHeartbeats 1000000 in
set_option maxRecDepth 20000 in
theorem m_get_ok1 {l : Launch} {G : pm_G} {fi : Bool} {h : pm_H} {T : mS} {j x y : Nat} (hl : l.stackTraces = false) (H : mH T h) (hj : j < 20) (hkk : mA T 0 j = 1) (h4 : mA T 2 j ≤ 4) (h5 : mA T 3 j ≤ 4) (hx : x < mA T 2 j) (hy : y < mA T 3 j) : pm_Cn l G fi fi 0 0 M_Mo_get [.ref (95), .int (nI j), .int (nI x), .int (nI y)] h (m_P (some (.double (mV T (j * 16 + x * 4 + y)))) (msG T 5 0) h) := by
  refine pm_Cn.of hl (by decide) (Nat.le_of_ble_eq_true rfl) ?_
  refine px (fun _ => pm_aload_n (pc := 0) d_Mo_get_0 rfl) ?_
  refine px (fun _ => pm_aload_n (pc := 1) d_Mo_get_1 rfl) ?_
  refine px (fun _ => pm_iload_n (pc := 2) d_Mo_get_2 rfl) ?_
  refine px (fun _ => k_Mo_get_3 (kc1 := 0) (ks1 := 0) (kc := 0) (ks := 0) (av := [.int (nI j)]) (st := [.ref (95)]) H.1 (m_ns_in hl H hj) rfl rfl (Nat.le_of_ble_eq_true rfl)) ?_
  refine pxb (fun _ => pm_if_eq (pc := 6) (tgt := 13) d_Mo_get_6 (by decide)) (fun c_1 => ?_) (fun c_1 => absurd (by decide) c_1)
  refine px (fun _ => pm_iconst (v := 0) (pc := 13) d_Mo_get_13 rfl) ?_
  refine px (fun _ => pm_putfC (c' := pm_Ob 4 [.ref (96), .ref (97), .ref (98), .ref (99), .ref (100), .ref (101), .ref (102), .ref (103), .ref (104), .ref (105), .ref (106), .ref (107), .ref (108), .ref (109), .int (nI (mG T 0)), .int (nI (mG T 1)), .int (nI (mG T 2)), .int (nI (mG T 3)), .int (nI (mG T 4)), .int (0), .int (nI (mG T 6))]) fp_Mo_57 (pc := 14) d_Mo_get_14 H.1 (Nat.le_of_ble_eq_true rfl) rfl rfl rfl) ?_
  have H_2 : mH (msG T 5 0) (h.set (95) (pm_Ob 4 [.ref (96), .ref (97), .ref (98), .ref (99), .ref (100), .ref (101), .ref (102), .ref (103), .ref (104), .ref (105), .ref (106), .ref (107), .ref (108), .ref (109), .int (nI (mG T 0)), .int (nI (mG T 1)), .int (nI (mG T 2)), .int (nI (mG T 3)), .int (nI (mG T 4)), .int (0), .int (nI (mG T 6))])) := H.G5 (v := 0)
  refine px (fun _ => pm_aload_n (pc := 17) d_Mo_get_17 rfl) ?_
  refine px (fun _ => pm_getf fl_Mo_57 (pc := 18) d_Mo_get_18 H_2.1 rfl) ?_
  refine pxb (fun _ => pm_if_eq (pc := 21) (tgt := 26) d_Mo_get_21 (by decide)) (fun c_3 => ?_) (fun c_3 => absurd (rfl) c_3)
  refine px (fun _ => pm_aload_n (pc := 26) d_Mo_get_26 rfl) ?_
  refine px (fun _ => pm_getf fl_Mo_7 (pc := 27) d_Mo_get_27 H_2.1 rfl) ?_
  refine px (fun _ => pm_iload_n (pc := 30) d_Mo_get_30 rfl) ?_
  refine px (fun _ => pm_iald (j := j) (pc := 31) d_Mo_get_31 H_2.2.1 (rfl) (hj) (by decide)) ?_
  refine px (fun _ => pm_iconst (v := 1) (pc := 32) d_Mo_get_32 rfl) ?_
  refine pxb (fun _ => pm_icmp_eq (pc := 33) (tgt := 70) d_Mo_get_33 (by decide)) (fun c_4 => ?_) (fun c_4 => absurd (show nI (mA T 0 j) = 1 by rw [hkk]; rfl) c_4)
  refine px (fun _ => pm_iconst (v := 1) (pc := 70) d_Mo_get_70 rfl) ?_
  refine px (fun _ => pm_goto (tgt := 75) (pc := 71) d_Mo_get_71 (by decide)) ?_
  refine px (fun _ => pm_istore (lv' := [(4, .int (1)), (0, .ref (95)), (1, .int (nI j)), (2, .int (nI x)), (3, .int (nI y))]) (pc := 75) d_Mo_get_75 (by decide) rfl) ?_
  refine px (fun _ => pm_iload (pc := 77) d_Mo_get_77 rfl) ?_
  refine pxb (fun _ => pm_if_eq (pc := 79) (tgt := 110) d_Mo_get_79 (by decide)) (fun c_5 => absurd c_5 (by decide)) (fun c_5 => ?_)
  refine px (fun _ => pm_iload_n (pc := 82) d_Mo_get_82 rfl) ?_
  refine pxb (fun _ => pm_if_lt (pc := 83) (tgt := 110) d_Mo_get_83 (by decide)) (fun c_6 => absurd c_6 (nI_pos (by omega))) (fun c_6 => ?_)
  refine px (fun _ => pm_iload_n (pc := 86) d_Mo_get_86 rfl) ?_
  refine pxb (fun _ => pm_if_lt (pc := 87) (tgt := 110) d_Mo_get_87 (by decide)) (fun c_7 => absurd c_7 (nI_pos (by omega))) (fun c_7 => ?_)
  refine px (fun _ => pm_iload_n (pc := 90) d_Mo_get_90 rfl) ?_
  refine px (fun _ => pm_aload_n (pc := 91) d_Mo_get_91 rfl) ?_
  refine px (fun _ => pm_getf fl_Mo_16 (pc := 92) d_Mo_get_92 H_2.1 rfl) ?_
  refine px (fun _ => pm_iload_n (pc := 95) d_Mo_get_95 rfl) ?_
  refine px (fun _ => pm_iald (j := j) (pc := 96) d_Mo_get_96 H_2.2.2.2.1 (rfl) (hj) (by decide)) ?_
  refine pxb (fun _ => pm_icmp_ge (pc := 97) (tgt := 110) d_Mo_get_97 (by decide)) (fun c_8 => absurd c_8 (fun q => absurd ((nI_leI (a := mA T 2 j) (b := x) (by omega) (by omega)).mp q) (by omega))) (fun c_8 => ?_)
  refine px (fun _ => pm_iload_n (pc := 100) d_Mo_get_100 rfl) ?_
  refine px (fun _ => pm_aload_n (pc := 101) d_Mo_get_101 rfl) ?_
  refine px (fun _ => pm_getf fl_Mo_19 (pc := 102) d_Mo_get_102 H_2.1 rfl) ?_
  refine px (fun _ => pm_iload_n (pc := 105) d_Mo_get_105 rfl) ?_
  refine px (fun _ => pm_iald (j := j) (pc := 106) d_Mo_get_106 H_2.2.2.2.2.1 (rfl) (hj) (by decide)) ?_
  refine pxb (fun _ => pm_icmp_lt (pc := 107) (tgt := 117) d_Mo_get_107 (by decide)) (fun c_9 => ?_) (fun c_9 => absurd ((nI_ltI (a := y) (b := mA T 3 j) (by omega) (by omega)).mpr hy) c_9)
  refine px (fun _ => pm_aload_n (pc := 117) d_Mo_get_117 rfl) ?_
  refine px (fun _ => pm_getf fl_Mo_25 (pc := 118) d_Mo_get_118 H_2.1 rfl) ?_
  refine px (fun _ => pm_iload_n (pc := 121) d_Mo_get_121 rfl) ?_
  refine px (fun _ => pm_bipush (v := 16) (pc := 122) d_Mo_get_122 rfl) ?_
  refine px (fun _ => pm_imulN (a := j) (b := 16) (pc := 124) d_Mo_get_124) ?_
  refine px (fun _ => pm_iload_n (pc := 125) d_Mo_get_125 rfl) ?_
  refine px (fun _ => pm_iconst (v := 4) (pc := 126) d_Mo_get_126 rfl) ?_
  refine px (fun _ => pm_imulN (a := x) (b := 4) (pc := 127) d_Mo_get_127) ?_
  refine px (fun _ => pm_iaddN (a := (j * 16)) (b := (x * 4)) (pc := 128) d_Mo_get_128) ?_
  refine px (fun _ => pm_iload_n (pc := 129) d_Mo_get_129 rfl) ?_
  refine px (fun _ => pm_iaddN (a := ((j * 16) + (x * 4))) (b := y) (pc := 130) d_Mo_get_130) ?_
  refine px (fun _ => pm_dald (j := j * 16 + x * 4 + y) (pc := 131) d_Mo_get_131 H_2.2.2.2.2.2.2.1 (rfl) (by omega) (by decide)) ?_
  exact pxr (pm_dret (pc := 132) d_Mo_get_132 rfl) ⟨rfl, H_2, (mFr.set _ _ (by omega))⟩
set_option maxHeartbeats 1000000 in
set_option maxRecDepth 20000 in
theorem m_get_m2 {l : Launch} {G : pm_G} {fi : Bool} {h : pm_H} {T : mS} {j : Nat} {i9 j9 : Int32} (hl : l.stackTraces = false) (H : mH T h) (hj : j < 20) (hkk : mA T 0 j = 2) (hb : ¬ (¬ i9 < 0 ∧ ¬ nI (mA T 2 j) ≤ i9 ∧ ¬ j9 < 0 ∧ ¬ nI (mA T 3 j) ≤ j9)) : pm_Cn l G fi fi 0 0 M_Mo_get [.ref (95), .int (nI j), .int (i9), .int (j9)] h (m_P (some (.double FP.dconst0)) (msG (msG T 5 0) 5 2) h) := by
  refine pm_Cn.of hl (by decide) (Nat.le_of_ble_eq_true rfl) ?_
  refine px (fun _ => pm_aload_n (pc := 0) d_Mo_get_0 rfl) ?_
  refine px (fun _ => pm_aload_n (pc := 1) d_Mo_get_1 rfl) ?_
  refine px (fun _ => pm_iload_n (pc := 2) d_Mo_get_2 rfl) ?_
  refine px (fun _ => k_Mo_get_3 (kc1 := 0) (ks1 := 0) (kc := 0) (ks := 0) (av := [.int (nI j)]) (st := [.ref (95)]) H.1 (m_ns_in hl H hj) rfl rfl (Nat.le_of_ble_eq_true rfl)) ?_
  refine pxb (fun _ => pm_if_eq (pc := 6) (tgt := 13) d_Mo_get_6 (by decide)) (fun c_1 => ?_) (fun c_1 => absurd (by decide) c_1)
  refine px (fun _ => pm_iconst (v := 0) (pc := 13) d_Mo_get_13 rfl) ?_
  refine px (fun _ => pm_putfC (c' := pm_Ob 4 [.ref (96), .ref (97), .ref (98), .ref (99), .ref (100), .ref (101), .ref (102), .ref (103), .ref (104), .ref (105), .ref (106), .ref (107), .ref (108), .ref (109), .int (nI (mG T 0)), .int (nI (mG T 1)), .int (nI (mG T 2)), .int (nI (mG T 3)), .int (nI (mG T 4)), .int (0), .int (nI (mG T 6))]) fp_Mo_57 (pc := 14) d_Mo_get_14 H.1 (Nat.le_of_ble_eq_true rfl) rfl rfl rfl) ?_
  have H_2 : mH (msG T 5 0) (h.set (95) (pm_Ob 4 [.ref (96), .ref (97), .ref (98), .ref (99), .ref (100), .ref (101), .ref (102), .ref (103), .ref (104), .ref (105), .ref (106), .ref (107), .ref (108), .ref (109), .int (nI (mG T 0)), .int (nI (mG T 1)), .int (nI (mG T 2)), .int (nI (mG T 3)), .int (nI (mG T 4)), .int (0), .int (nI (mG T 6))])) := H.G5 (v := 0)
  refine px (fun _ => pm_aload_n (pc := 17) d_Mo_get_17 rfl) ?_
  refine px (fun _ => pm_getf fl_Mo_57 (pc := 18) d_Mo_get_18 H_2.1 rfl) ?_
  refine pxb (fun _ => pm_if_eq (pc := 21) (tgt := 26) d_Mo_get_21 (by decide)) (fun c_3 => ?_) (fun c_3 => absurd (rfl) c_3)
  refine px (fun _ => pm_aload_n (pc := 26) d_Mo_get_26 rfl) ?_
  refine px (fun _ => pm_getf fl_Mo_7 (pc := 27) d_Mo_get_27 H_2.1 rfl) ?_
  refine px (fun _ => pm_iload_n (pc := 30) d_Mo_get_30 rfl) ?_
  refine px (fun _ => pm_iald (j := j) (pc := 31) d_Mo_get_31 H_2.2.1 (rfl) (hj) (by decide)) ?_
  refine px (fun _ => pm_iconst (v := 1) (pc := 32) d_Mo_get_32 rfl) ?_
  refine pxb (fun _ => pm_icmp_eq (pc := 33) (tgt := 70) d_Mo_get_33 (by decide)) (fun c_4 => absurd c_4 (fun q => absurd (show nI (mA T 0 j) = 1 from q) (by rw [hkk]; decide))) (fun c_4 => ?_)
  refine px (fun _ => pm_aload_n (pc := 36) d_Mo_get_36 rfl) ?_
  refine px (fun _ => pm_getf fl_Mo_7 (pc := 37) d_Mo_get_37 H_2.1 rfl) ?_
  refine px (fun _ => pm_iload_n (pc := 40) d_Mo_get_40 rfl) ?_
  refine px (fun _ => pm_iald (j := j) (pc := 41) d_Mo_get_41 H_2.2.1 (rfl) (hj) (by decide)) ?_
  refine px (fun _ => pm_iconst (v := 2) (pc := 42) d_Mo_get_42 rfl) ?_
  refine pxb (fun _ => pm_icmp_eq (pc := 43) (tgt := 70) d_Mo_get_43 (by decide)) (fun c_5 => ?_) (fun c_5 => absurd (show nI (mA T 0 j) = 2 by rw [hkk]; rfl) c_5)
  refine px (fun _ => pm_iconst (v := 1) (pc := 70) d_Mo_get_70 rfl) ?_
  refine px (fun _ => pm_goto (tgt := 75) (pc := 71) d_Mo_get_71 (by decide)) ?_
  refine px (fun _ => pm_istore (lv' := [(4, .int (1)), (0, .ref (95)), (1, .int (nI j)), (2, .int (i9)), (3, .int (j9))]) (pc := 75) d_Mo_get_75 (by decide) rfl) ?_
  refine px (fun _ => pm_iload (pc := 77) d_Mo_get_77 rfl) ?_
  refine pxb (fun _ => pm_if_eq (pc := 79) (tgt := 110) d_Mo_get_79 (by decide)) (fun c_6 => absurd c_6 (by decide)) (fun c_6 => ?_)
  refine px (fun _ => pm_iload_n (pc := 82) d_Mo_get_82 rfl) ?_
  refine pxb (fun _ => pm_if_lt (pc := 83) (tgt := 110) d_Mo_get_83 (by decide)) (fun c_7 => ?_) (fun c_7 => ?_)
  · refine px (fun _ => pm_aload_n (pc := 110) d_Mo_get_110 rfl) ?_
    refine px (fun _ => pm_iconst (v := 2) (pc := 111) d_Mo_get_111 rfl) ?_
    refine px (fun _ => pm_putfC (c' := pm_Ob 4 [.ref (96), .ref (97), .ref (98), .ref (99), .ref (100), .ref (101), .ref (102), .ref (103), .ref (104), .ref (105), .ref (106), .ref (107), .ref (108), .ref (109), .int (nI (mG (msG T 5 0) 0)), .int (nI (mG (msG T 5 0) 1)), .int (nI (mG (msG T 5 0) 2)), .int (nI (mG (msG T 5 0) 3)), .int (nI (mG (msG T 5 0) 4)), .int (2), .int (nI (mG (msG T 5 0) 6))]) fp_Mo_57 (pc := 112) d_Mo_get_112 H_2.1 (Nat.le_of_ble_eq_true rfl) rfl rfl rfl) ?_
    have H_8 : mH (msG (msG T 5 0) 5 2) ((h.set (95) (pm_Ob 4 [.ref (96), .ref (97), .ref (98), .ref (99), .ref (100), .ref (101), .ref (102), .ref (103), .ref (104), .ref (105), .ref (106), .ref (107), .ref (108), .ref (109), .int (nI (mG T 0)), .int (nI (mG T 1)), .int (nI (mG T 2)), .int (nI (mG T 3)), .int (nI (mG T 4)), .int (0), .int (nI (mG T 6))])).set (95) (pm_Ob 4 [.ref (96), .ref (97), .ref (98), .ref (99), .ref (100), .ref (101), .ref (102), .ref (103), .ref (104), .ref (105), .ref (106), .ref (107), .ref (108), .ref (109), .int (nI (mG (msG T 5 0) 0)), .int (nI (mG (msG T 5 0) 1)), .int (nI (mG (msG T 5 0) 2)), .int (nI (mG (msG T 5 0) 3)), .int (nI (mG (msG T 5 0) 4)), .int (2), .int (nI (mG (msG T 5 0) 6))])) := H_2.G5 (v := 2)
    refine px (fun _ => pm_dconst0 (pc := 115) d_Mo_get_115) ?_
    exact pxr (pm_dret (pc := 116) d_Mo_get_116 rfl) ⟨rfl, H_8, ((mFr.set _ _ (by omega))).tr ((mFr.set _ _ (by omega)))⟩
  · refine px (fun _ => pm_iload_n (pc := 86) d_Mo_get_86 rfl) ?_
    refine pxb (fun _ => pm_if_lt (pc := 87) (tgt := 110) d_Mo_get_87 (by decide)) (fun c_9 => ?_) (fun c_9 => ?_)
    · refine px (fun _ => pm_aload_n (pc := 110) d_Mo_get_110 rfl) ?_
      refine px (fun _ => pm_iconst (v := 2) (pc := 111) d_Mo_get_111 rfl) ?_
      refine px (fun _ => pm_putfC (c' := pm_Ob 4 [.ref (96), .ref (97), .ref (98), .ref (99), .ref (100), .ref (101), .ref (102), .ref (103), .ref (104), .ref (105), .ref (106), .ref (107), .ref (108), .ref (109), .int (nI (mG (msG T 5 0) 0)), .int (nI (mG (msG T 5 0) 1)), .int (nI (mG (msG T 5 0) 2)), .int (nI (mG (msG T 5 0) 3)), .int (nI (mG (msG T 5 0) 4)), .int (2), .int (nI (mG (msG T 5 0) 6))]) fp_Mo_57 (pc := 112) d_Mo_get_112 H_2.1 (Nat.le_of_ble_eq_true rfl) rfl rfl rfl) ?_
      have H_10 : mH (msG (msG T 5 0) 5 2) ((h.set (95) (pm_Ob 4 [.ref (96), .ref (97), .ref (98), .ref (99), .ref (100), .ref (101), .ref (102), .ref (103), .ref (104), .ref (105), .ref (106), .ref (107), .ref (108), .ref (109), .int (nI (mG T 0)), .int (nI (mG T 1)), .int (nI (mG T 2)), .int (nI (mG T 3)), .int (nI (mG T 4)), .int (0), .int (nI (mG T 6))])).set (95) (pm_Ob 4 [.ref (96), .ref (97), .ref (98), .ref (99), .ref (100), .ref (101), .ref (102), .ref (103), .ref (104), .ref (105), .ref (106), .ref (107), .ref (108), .ref (109), .int (nI (mG (msG T 5 0) 0)), .int (nI (mG (msG T 5 0) 1)), .int (nI (mG (msG T 5 0) 2)), .int (nI (mG (msG T 5 0) 3)), .int (nI (mG (msG T 5 0) 4)), .int (2), .int (nI (mG (msG T 5 0) 6))])) := H_2.G5 (v := 2)
      refine px (fun _ => pm_dconst0 (pc := 115) d_Mo_get_115) ?_
      exact pxr (pm_dret (pc := 116) d_Mo_get_116 rfl) ⟨rfl, H_10, ((mFr.set _ _ (by omega))).tr ((mFr.set _ _ (by omega)))⟩
    · refine px (fun _ => pm_iload_n (pc := 90) d_Mo_get_90 rfl) ?_
      refine px (fun _ => pm_aload_n (pc := 91) d_Mo_get_91 rfl) ?_
      refine px (fun _ => pm_getf fl_Mo_16 (pc := 92) d_Mo_get_92 H_2.1 rfl) ?_
      refine px (fun _ => pm_iload_n (pc := 95) d_Mo_get_95 rfl) ?_
      refine px (fun _ => pm_iald (j := j) (pc := 96) d_Mo_get_96 H_2.2.2.2.1 (rfl) (hj) (by decide)) ?_
      refine pxb (fun _ => pm_icmp_ge (pc := 97) (tgt := 110) d_Mo_get_97 (by decide)) (fun c_11 => ?_) (fun c_11 => ?_)
      · refine px (fun _ => pm_aload_n (pc := 110) d_Mo_get_110 rfl) ?_
        refine px (fun _ => pm_iconst (v := 2) (pc := 111) d_Mo_get_111 rfl) ?_
        refine px (fun _ => pm_putfC (c' := pm_Ob 4 [.ref (96), .ref (97), .ref (98), .ref (99), .ref (100), .ref (101), .ref (102), .ref (103), .ref (104), .ref (105), .ref (106), .ref (107), .ref (108), .ref (109), .int (nI (mG (msG T 5 0) 0)), .int (nI (mG (msG T 5 0) 1)), .int (nI (mG (msG T 5 0) 2)), .int (nI (mG (msG T 5 0) 3)), .int (nI (mG (msG T 5 0) 4)), .int (2), .int (nI (mG (msG T 5 0) 6))]) fp_Mo_57 (pc := 112) d_Mo_get_112 H_2.1 (Nat.le_of_ble_eq_true rfl) rfl rfl rfl) ?_
        have H_12 : mH (msG (msG T 5 0) 5 2) ((h.set (95) (pm_Ob 4 [.ref (96), .ref (97), .ref (98), .ref (99), .ref (100), .ref (101), .ref (102), .ref (103), .ref (104), .ref (105), .ref (106), .ref (107), .ref (108), .ref (109), .int (nI (mG T 0)), .int (nI (mG T 1)), .int (nI (mG T 2)), .int (nI (mG T 3)), .int (nI (mG T 4)), .int (0), .int (nI (mG T 6))])).set (95) (pm_Ob 4 [.ref (96), .ref (97), .ref (98), .ref (99), .ref (100), .ref (101), .ref (102), .ref (103), .ref (104), .ref (105), .ref (106), .ref (107), .ref (108), .ref (109), .int (nI (mG (msG T 5 0) 0)), .int (nI (mG (msG T 5 0) 1)), .int (nI (mG (msG T 5 0) 2)), .int (nI (mG (msG T 5 0) 3)), .int (nI (mG (msG T 5 0) 4)), .int (2), .int (nI (mG (msG T 5 0) 6))])) := H_2.G5 (v := 2)
        refine px (fun _ => pm_dconst0 (pc := 115) d_Mo_get_115) ?_
        exact pxr (pm_dret (pc := 116) d_Mo_get_116 rfl) ⟨rfl, H_12, ((mFr.set _ _ (by omega))).tr ((mFr.set _ _ (by omega)))⟩
      · refine px (fun _ => pm_iload_n (pc := 100) d_Mo_get_100 rfl) ?_
        refine px (fun _ => pm_aload_n (pc := 101) d_Mo_get_101 rfl) ?_
        refine px (fun _ => pm_getf fl_Mo_19 (pc := 102) d_Mo_get_102 H_2.1 rfl) ?_
        refine px (fun _ => pm_iload_n (pc := 105) d_Mo_get_105 rfl) ?_
        refine px (fun _ => pm_iald (j := j) (pc := 106) d_Mo_get_106 H_2.2.2.2.2.1 (rfl) (hj) (by decide)) ?_
        refine pxb (fun _ => pm_icmp_lt (pc := 107) (tgt := 117) d_Mo_get_107 (by decide)) (fun c_13 => ?_) (fun c_13 => ?_)
        · exact absurd ⟨by assumption, by assumption, by assumption, Int32.not_le.mpr (by assumption)⟩ hb
        · refine px (fun _ => pm_aload_n (pc := 110) d_Mo_get_110 rfl) ?_
          refine px (fun _ => pm_iconst (v := 2) (pc := 111) d_Mo_get_111 rfl) ?_
          refine px (fun _ => pm_putfC (c' := pm_Ob 4 [.ref (96), .ref (97), .ref (98), .ref (99), .ref (100), .ref (101), .ref (102), .ref (103), .ref (104), .ref (105), .ref (106), .ref (107), .ref (108), .ref (109), .int (nI (mG (msG T 5 0) 0)), .int (nI (mG (msG T 5 0) 1)), .int (nI (mG (msG T 5 0) 2)), .int (nI (mG (msG T 5 0) 3)), .int (nI (mG (msG T 5 0) 4)), .int (2), .int (nI (mG (msG T 5 0) 6))]) fp_Mo_57 (pc := 112) d_Mo_get_112 H_2.1 (Nat.le_of_ble_eq_true rfl) rfl rfl rfl) ?_
          have H_14 : mH (msG (msG T 5 0) 5 2) ((h.set (95) (pm_Ob 4 [.ref (96), .ref (97), .ref (98), .ref (99), .ref (100), .ref (101), .ref (102), .ref (103), .ref (104), .ref (105), .ref (106), .ref (107), .ref (108), .ref (109), .int (nI (mG T 0)), .int (nI (mG T 1)), .int (nI (mG T 2)), .int (nI (mG T 3)), .int (nI (mG T 4)), .int (0), .int (nI (mG T 6))])).set (95) (pm_Ob 4 [.ref (96), .ref (97), .ref (98), .ref (99), .ref (100), .ref (101), .ref (102), .ref (103), .ref (104), .ref (105), .ref (106), .ref (107), .ref (108), .ref (109), .int (nI (mG (msG T 5 0) 0)), .int (nI (mG (msG T 5 0) 1)), .int (nI (mG (msG T 5 0) 2)), .int (nI (mG (msG T 5 0) 3)), .int (nI (mG (msG T 5 0) 4)), .int (2), .int (nI (mG (msG T 5 0) 6))])) := H_2.G5 (v := 2)
          refine px (fun _ => pm_dconst0 (pc := 115) d_Mo_get_115) ?_
          exact pxr (pm_dret (pc := 116) d_Mo_get_116 rfl) ⟨rfl, H_14, ((mFr.set _ _ (by omega))).tr ((mFr.set _ _ (by omega)))⟩
set_option maxHeartbeats 1000000 in
set_option maxRecDepth 20000 in
theorem m_get_ok2 {l : Launch} {G : pm_G} {fi : Bool} {h : pm_H} {T : mS} {j x y : Nat} (hl : l.stackTraces = false) (H : mH T h) (hj : j < 20) (hkk : mA T 0 j = 2) (h4 : mA T 2 j ≤ 4) (h5 : mA T 3 j ≤ 4) (hx : x < mA T 2 j) (hy : y < mA T 3 j) : pm_Cn l G fi fi 0 0 M_Mo_get [.ref (95), .int (nI j), .int (nI x), .int (nI y)] h (m_P (some (.double (mV T (j * 16 + x * 4 + y)))) (msG T 5 0) h) := by
  refine pm_Cn.of hl (by decide) (Nat.le_of_ble_eq_true rfl) ?_
  refine px (fun _ => pm_aload_n (pc := 0) d_Mo_get_0 rfl) ?_
  refine px (fun _ => pm_aload_n (pc := 1) d_Mo_get_1 rfl) ?_
  refine px (fun _ => pm_iload_n (pc := 2) d_Mo_get_2 rfl) ?_
  refine px (fun _ => k_Mo_get_3 (kc1 := 0) (ks1 := 0) (kc := 0) (ks := 0) (av := [.int (nI j)]) (st := [.ref (95)]) H.1 (m_ns_in hl H hj) rfl rfl (Nat.le_of_ble_eq_true rfl)) ?_
  refine pxb (fun _ => pm_if_eq (pc := 6) (tgt := 13) d_Mo_get_6 (by decide)) (fun c_1 => ?_) (fun c_1 => absurd (by decide) c_1)
  refine px (fun _ => pm_iconst (v := 0) (pc := 13) d_Mo_get_13 rfl) ?_
  refine px (fun _ => pm_putfC (c' := pm_Ob 4 [.ref (96), .ref (97), .ref (98), .ref (99), .ref (100), .ref (101), .ref (102), .ref (103), .ref (104), .ref (105), .ref (106), .ref (107), .ref (108), .ref (109), .int (nI (mG T 0)), .int (nI (mG T 1)), .int (nI (mG T 2)), .int (nI (mG T 3)), .int (nI (mG T 4)), .int (0), .int (nI (mG T 6))]) fp_Mo_57 (pc := 14) d_Mo_get_14 H.1 (Nat.le_of_ble_eq_true rfl) rfl rfl rfl) ?_
  have H_2 : mH (msG T 5 0) (h.set (95) (pm_Ob 4 [.ref (96), .ref (97), .ref (98), .ref (99), .ref (100), .ref (101), .ref (102), .ref (103), .ref (104), .ref (105), .ref (106), .ref (107), .ref (108), .ref (109), .int (nI (mG T 0)), .int (nI (mG T 1)), .int (nI (mG T 2)), .int (nI (mG T 3)), .int (nI (mG T 4)), .int (0), .int (nI (mG T 6))])) := H.G5 (v := 0)
  refine px (fun _ => pm_aload_n (pc := 17) d_Mo_get_17 rfl) ?_
  refine px (fun _ => pm_getf fl_Mo_57 (pc := 18) d_Mo_get_18 H_2.1 rfl) ?_
  refine pxb (fun _ => pm_if_eq (pc := 21) (tgt := 26) d_Mo_get_21 (by decide)) (fun c_3 => ?_) (fun c_3 => absurd (rfl) c_3)
  refine px (fun _ => pm_aload_n (pc := 26) d_Mo_get_26 rfl) ?_
  refine px (fun _ => pm_getf fl_Mo_7 (pc := 27) d_Mo_get_27 H_2.1 rfl) ?_
  refine px (fun _ => pm_iload_n (pc := 30) d_Mo_get_30 rfl) ?_
  refine px (fun _ => pm_iald (j := j) (pc := 31) d_Mo_get_31 H_2.2.1 (rfl) (hj) (by decide)) ?_
  refine px (fun _ => pm_iconst (v := 1) (pc := 32) d_Mo_get_32 rfl) ?_
  refine pxb (fun _ => pm_icmp_eq (pc := 33) (tgt := 70) d_Mo_get_33 (by decide)) (fun c_4 => absurd c_4 (fun q => absurd (show nI (mA T 0 j) = 1 from q) (by rw [hkk]; decide))) (fun c_4 => ?_)
  refine px (fun _ => pm_aload_n (pc := 36) d_Mo_get_36 rfl) ?_
  refine px (fun _ => pm_getf fl_Mo_7 (pc := 37) d_Mo_get_37 H_2.1 rfl) ?_
  refine px (fun _ => pm_iload_n (pc := 40) d_Mo_get_40 rfl) ?_
  refine px (fun _ => pm_iald (j := j) (pc := 41) d_Mo_get_41 H_2.2.1 (rfl) (hj) (by decide)) ?_
  refine px (fun _ => pm_iconst (v := 2) (pc := 42) d_Mo_get_42 rfl) ?_
  refine pxb (fun _ => pm_icmp_eq (pc := 43) (tgt := 70) d_Mo_get_43 (by decide)) (fun c_5 => ?_) (fun c_5 => absurd (show nI (mA T 0 j) = 2 by rw [hkk]; rfl) c_5)
  refine px (fun _ => pm_iconst (v := 1) (pc := 70) d_Mo_get_70 rfl) ?_
  refine px (fun _ => pm_goto (tgt := 75) (pc := 71) d_Mo_get_71 (by decide)) ?_
  refine px (fun _ => pm_istore (lv' := [(4, .int (1)), (0, .ref (95)), (1, .int (nI j)), (2, .int (nI x)), (3, .int (nI y))]) (pc := 75) d_Mo_get_75 (by decide) rfl) ?_
  refine px (fun _ => pm_iload (pc := 77) d_Mo_get_77 rfl) ?_
  refine pxb (fun _ => pm_if_eq (pc := 79) (tgt := 110) d_Mo_get_79 (by decide)) (fun c_6 => absurd c_6 (by decide)) (fun c_6 => ?_)
  refine px (fun _ => pm_iload_n (pc := 82) d_Mo_get_82 rfl) ?_
  refine pxb (fun _ => pm_if_lt (pc := 83) (tgt := 110) d_Mo_get_83 (by decide)) (fun c_7 => absurd c_7 (nI_pos (by omega))) (fun c_7 => ?_)
  refine px (fun _ => pm_iload_n (pc := 86) d_Mo_get_86 rfl) ?_
  refine pxb (fun _ => pm_if_lt (pc := 87) (tgt := 110) d_Mo_get_87 (by decide)) (fun c_8 => absurd c_8 (nI_pos (by omega))) (fun c_8 => ?_)
  refine px (fun _ => pm_iload_n (pc := 90) d_Mo_get_90 rfl) ?_
  refine px (fun _ => pm_aload_n (pc := 91) d_Mo_get_91 rfl) ?_
  refine px (fun _ => pm_getf fl_Mo_16 (pc := 92) d_Mo_get_92 H_2.1 rfl) ?_
  refine px (fun _ => pm_iload_n (pc := 95) d_Mo_get_95 rfl) ?_
  refine px (fun _ => pm_iald (j := j) (pc := 96) d_Mo_get_96 H_2.2.2.2.1 (rfl) (hj) (by decide)) ?_
  refine pxb (fun _ => pm_icmp_ge (pc := 97) (tgt := 110) d_Mo_get_97 (by decide)) (fun c_9 => absurd c_9 (fun q => absurd ((nI_leI (a := mA T 2 j) (b := x) (by omega) (by omega)).mp q) (by omega))) (fun c_9 => ?_)
  refine px (fun _ => pm_iload_n (pc := 100) d_Mo_get_100 rfl) ?_
  refine px (fun _ => pm_aload_n (pc := 101) d_Mo_get_101 rfl) ?_
  refine px (fun _ => pm_getf fl_Mo_19 (pc := 102) d_Mo_get_102 H_2.1 rfl) ?_
  refine px (fun _ => pm_iload_n (pc := 105) d_Mo_get_105 rfl) ?_
  refine px (fun _ => pm_iald (j := j) (pc := 106) d_Mo_get_106 H_2.2.2.2.2.1 (rfl) (hj) (by decide)) ?_
  refine pxb (fun _ => pm_icmp_lt (pc := 107) (tgt := 117) d_Mo_get_107 (by decide)) (fun c_10 => ?_) (fun c_10 => absurd ((nI_ltI (a := y) (b := mA T 3 j) (by omega) (by omega)).mpr hy) c_10)
  refine px (fun _ => pm_aload_n (pc := 117) d_Mo_get_117 rfl) ?_
  refine px (fun _ => pm_getf fl_Mo_25 (pc := 118) d_Mo_get_118 H_2.1 rfl) ?_
  refine px (fun _ => pm_iload_n (pc := 121) d_Mo_get_121 rfl) ?_
  refine px (fun _ => pm_bipush (v := 16) (pc := 122) d_Mo_get_122 rfl) ?_
  refine px (fun _ => pm_imulN (a := j) (b := 16) (pc := 124) d_Mo_get_124) ?_
  refine px (fun _ => pm_iload_n (pc := 125) d_Mo_get_125 rfl) ?_
  refine px (fun _ => pm_iconst (v := 4) (pc := 126) d_Mo_get_126 rfl) ?_
  refine px (fun _ => pm_imulN (a := x) (b := 4) (pc := 127) d_Mo_get_127) ?_
  refine px (fun _ => pm_iaddN (a := (j * 16)) (b := (x * 4)) (pc := 128) d_Mo_get_128) ?_
  refine px (fun _ => pm_iload_n (pc := 129) d_Mo_get_129 rfl) ?_
  refine px (fun _ => pm_iaddN (a := ((j * 16) + (x * 4))) (b := y) (pc := 130) d_Mo_get_130) ?_
  refine px (fun _ => pm_dald (j := j * 16 + x * 4 + y) (pc := 131) d_Mo_get_131 H_2.2.2.2.2.2.2.1 (rfl) (by omega) (by decide)) ?_
  exact pxr (pm_dret (pc := 132) d_Mo_get_132 rfl) ⟨rfl, H_2, (mFr.set _ _ (by omega))⟩
set_option maxHeartbeats 1000000 in
set_option maxRecDepth 20000 in
theorem m_get_m3 {l : Launch} {G : pm_G} {fi : Bool} {h : pm_H} {T : mS} {j : Nat} {i9 j9 : Int32} (hl : l.stackTraces = false) (H : mH T h) (hj : j < 20) (hkk : mA T 0 j = 3) (hm : mA T 4 j < 14) (hst : ¬ nI (mA T 10 (mA T 4 j)) = 0) (hb : ¬ (¬ i9 < 0 ∧ ¬ nI (mA T 2 j) ≤ i9 ∧ ¬ j9 < 0 ∧ ¬ nI (mA T 3 j) ≤ j9)) : pm_Cn l G fi fi 0 0 M_Mo_get [.ref (95), .int (nI j), .int (i9), .int (j9)] h (m_P (some (.double FP.dconst0)) (msG (msG T 5 0) 5 2) h) := by
  refine pm_Cn.of hl (by decide) (Nat.le_of_ble_eq_true rfl) ?_
  refine px (fun _ => pm_aload_n (pc := 0) d_Mo_get_0 rfl) ?_
  refine px (fun _ => pm_aload_n (pc := 1) d_Mo_get_1 rfl) ?_
  refine px (fun _ => pm_iload_n (pc := 2) d_Mo_get_2 rfl) ?_
  refine px (fun _ => k_Mo_get_3 (kc1 := 0) (ks1 := 0) (kc := 0) (ks := 0) (av := [.int (nI j)]) (st := [.ref (95)]) H.1 (m_ns_in hl H hj) rfl rfl (Nat.le_of_ble_eq_true rfl)) ?_
  refine pxb (fun _ => pm_if_eq (pc := 6) (tgt := 13) d_Mo_get_6 (by decide)) (fun c_1 => ?_) (fun c_1 => absurd (by decide) c_1)
  refine px (fun _ => pm_iconst (v := 0) (pc := 13) d_Mo_get_13 rfl) ?_
  refine px (fun _ => pm_putfC (c' := pm_Ob 4 [.ref (96), .ref (97), .ref (98), .ref (99), .ref (100), .ref (101), .ref (102), .ref (103), .ref (104), .ref (105), .ref (106), .ref (107), .ref (108), .ref (109), .int (nI (mG T 0)), .int (nI (mG T 1)), .int (nI (mG T 2)), .int (nI (mG T 3)), .int (nI (mG T 4)), .int (0), .int (nI (mG T 6))]) fp_Mo_57 (pc := 14) d_Mo_get_14 H.1 (Nat.le_of_ble_eq_true rfl) rfl rfl rfl) ?_
  have H_2 : mH (msG T 5 0) (h.set (95) (pm_Ob 4 [.ref (96), .ref (97), .ref (98), .ref (99), .ref (100), .ref (101), .ref (102), .ref (103), .ref (104), .ref (105), .ref (106), .ref (107), .ref (108), .ref (109), .int (nI (mG T 0)), .int (nI (mG T 1)), .int (nI (mG T 2)), .int (nI (mG T 3)), .int (nI (mG T 4)), .int (0), .int (nI (mG T 6))])) := H.G5 (v := 0)
  refine px (fun _ => pm_aload_n (pc := 17) d_Mo_get_17 rfl) ?_
  refine px (fun _ => pm_getf fl_Mo_57 (pc := 18) d_Mo_get_18 H_2.1 rfl) ?_
  refine pxb (fun _ => pm_if_eq (pc := 21) (tgt := 26) d_Mo_get_21 (by decide)) (fun c_3 => ?_) (fun c_3 => absurd (rfl) c_3)
  refine px (fun _ => pm_aload_n (pc := 26) d_Mo_get_26 rfl) ?_
  refine px (fun _ => pm_getf fl_Mo_7 (pc := 27) d_Mo_get_27 H_2.1 rfl) ?_
  refine px (fun _ => pm_iload_n (pc := 30) d_Mo_get_30 rfl) ?_
  refine px (fun _ => pm_iald (j := j) (pc := 31) d_Mo_get_31 H_2.2.1 (rfl) (hj) (by decide)) ?_
  refine px (fun _ => pm_iconst (v := 1) (pc := 32) d_Mo_get_32 rfl) ?_
  refine pxb (fun _ => pm_icmp_eq (pc := 33) (tgt := 70) d_Mo_get_33 (by decide)) (fun c_4 => absurd c_4 (fun q => absurd (show nI (mA T 0 j) = 1 from q) (by rw [hkk]; decide))) (fun c_4 => ?_)
  refine px (fun _ => pm_aload_n (pc := 36) d_Mo_get_36 rfl) ?_
  refine px (fun _ => pm_getf fl_Mo_7 (pc := 37) d_Mo_get_37 H_2.1 rfl) ?_
  refine px (fun _ => pm_iload_n (pc := 40) d_Mo_get_40 rfl) ?_
  refine px (fun _ => pm_iald (j := j) (pc := 41) d_Mo_get_41 H_2.2.1 (rfl) (hj) (by decide)) ?_
  refine px (fun _ => pm_iconst (v := 2) (pc := 42) d_Mo_get_42 rfl) ?_
  refine pxb (fun _ => pm_icmp_eq (pc := 43) (tgt := 70) d_Mo_get_43 (by decide)) (fun c_5 => absurd c_5 (fun q => absurd (show nI (mA T 0 j) = 2 from q) (by rw [hkk]; decide))) (fun c_5 => ?_)
  refine px (fun _ => pm_aload_n (pc := 46) d_Mo_get_46 rfl) ?_
  refine px (fun _ => pm_getf fl_Mo_7 (pc := 47) d_Mo_get_47 H_2.1 rfl) ?_
  refine px (fun _ => pm_iload_n (pc := 50) d_Mo_get_50 rfl) ?_
  refine px (fun _ => pm_iald (j := j) (pc := 51) d_Mo_get_51 H_2.2.1 (rfl) (hj) (by decide)) ?_
  refine px (fun _ => pm_iconst (v := 3) (pc := 52) d_Mo_get_52 rfl) ?_
  refine pxn (fun _ => pm_icmp_ne (pc := 53) (tgt := 74) d_Mo_get_53 (by decide)) (fun c_6 => absurd (show nI (mA T 0 j) = 3 by rw [hkk]; rfl) c_6) (fun c_6 => ?_)
  refine px (fun _ => pm_aload_n (pc := 56) d_Mo_get_56 rfl) ?_
  refine px (fun _ => pm_getf fl_Mo_41 (pc := 57) d_Mo_get_57 H_2.1 rfl) ?_
  refine px (fun _ => pm_aload_n (pc := 60) d_Mo_get_60 rfl) ?_
  refine px (fun _ => pm_getf fl_Mo_22 (pc := 61) d_Mo_get_61 H_2.1 rfl) ?_
  refine px (fun _ => pm_iload_n (pc := 64) d_Mo_get_64 rfl) ?_
  refine px (fun _ => pm_iald (j := j) (pc := 65) d_Mo_get_65 H_2.2.2.2.2.2.1 (rfl) (hj) (by decide)) ?_
  refine px (fun _ => pm_iald (j := mA T 4 j) (pc := 66) d_Mo_get_66 H_2.2.2.2.2.2.2.2.2.2.2.2.1 (rfl) (hm) (by decide)) ?_
  refine pxb (fun _ => pm_if_eq (pc := 67) (tgt := 74) d_Mo_get_67 (by decide)) (fun c_7 => absurd c_7 (hst)) (fun c_7 => ?_)
  refine px (fun _ => pm_iconst (v := 1) (pc := 70) d_Mo_get_70 rfl) ?_
  refine px (fun _ => pm_goto (tgt := 75) (pc := 71) d_Mo_get_71 (by decide)) ?_
  refine px (fun _ => pm_istore (lv' := [(4, .int (1)), (0, .ref (95)), (1, .int (nI j)), (2, .int (i9)), (3, .int (j9))]) (pc := 75) d_Mo_get_75 (by decide) rfl) ?_
  refine px (fun _ => pm_iload (pc := 77) d_Mo_get_77 rfl) ?_
  refine pxb (fun _ => pm_if_eq (pc := 79) (tgt := 110) d_Mo_get_79 (by decide)) (fun c_8 => absurd c_8 (by decide)) (fun c_8 => ?_)
  refine px (fun _ => pm_iload_n (pc := 82) d_Mo_get_82 rfl) ?_
  refine pxb (fun _ => pm_if_lt (pc := 83) (tgt := 110) d_Mo_get_83 (by decide)) (fun c_9 => ?_) (fun c_9 => ?_)
  · refine px (fun _ => pm_aload_n (pc := 110) d_Mo_get_110 rfl) ?_
    refine px (fun _ => pm_iconst (v := 2) (pc := 111) d_Mo_get_111 rfl) ?_
    refine px (fun _ => pm_putfC (c' := pm_Ob 4 [.ref (96), .ref (97), .ref (98), .ref (99), .ref (100), .ref (101), .ref (102), .ref (103), .ref (104), .ref (105), .ref (106), .ref (107), .ref (108), .ref (109), .int (nI (mG (msG T 5 0) 0)), .int (nI (mG (msG T 5 0) 1)), .int (nI (mG (msG T 5 0) 2)), .int (nI (mG (msG T 5 0) 3)), .int (nI (mG (msG T 5 0) 4)), .int (2), .int (nI (mG (msG T 5 0) 6))]) fp_Mo_57 (pc := 112) d_Mo_get_112 H_2.1 (Nat.le_of_ble_eq_true rfl) rfl rfl rfl) ?_
    have H_10 : mH (msG (msG T 5 0) 5 2) ((h.set (95) (pm_Ob 4 [.ref (96), .ref (97), .ref (98), .ref (99), .ref (100), .ref (101), .ref (102), .ref (103), .ref (104), .ref (105), .ref (106), .ref (107), .ref (108), .ref (109), .int (nI (mG T 0)), .int (nI (mG T 1)), .int (nI (mG T 2)), .int (nI (mG T 3)), .int (nI (mG T 4)), .int (0), .int (nI (mG T 6))])).set (95) (pm_Ob 4 [.ref (96), .ref (97), .ref (98), .ref (99), .ref (100), .ref (101), .ref (102), .ref (103), .ref (104), .ref (105), .ref (106), .ref (107), .ref (108), .ref (109), .int (nI (mG (msG T 5 0) 0)), .int (nI (mG (msG T 5 0) 1)), .int (nI (mG (msG T 5 0) 2)), .int (nI (mG (msG T 5 0) 3)), .int (nI (mG (msG T 5 0) 4)), .int (2), .int (nI (mG (msG T 5 0) 6))])) := H_2.G5 (v := 2)
    refine px (fun _ => pm_dconst0 (pc := 115) d_Mo_get_115) ?_
    exact pxr (pm_dret (pc := 116) d_Mo_get_116 rfl) ⟨rfl, H_10, ((mFr.set _ _ (by omega))).tr ((mFr.set _ _ (by omega)))⟩
  · refine px (fun _ => pm_iload_n (pc := 86) d_Mo_get_86 rfl) ?_
    refine pxb (fun _ => pm_if_lt (pc := 87) (tgt := 110) d_Mo_get_87 (by decide)) (fun c_11 => ?_) (fun c_11 => ?_)
    · refine px (fun _ => pm_aload_n (pc := 110) d_Mo_get_110 rfl) ?_
      refine px (fun _ => pm_iconst (v := 2) (pc := 111) d_Mo_get_111 rfl) ?_
      refine px (fun _ => pm_putfC (c' := pm_Ob 4 [.ref (96), .ref (97), .ref (98), .ref (99), .ref (100), .ref (101), .ref (102), .ref (103), .ref (104), .ref (105), .ref (106), .ref (107), .ref (108), .ref (109), .int (nI (mG (msG T 5 0) 0)), .int (nI (mG (msG T 5 0) 1)), .int (nI (mG (msG T 5 0) 2)), .int (nI (mG (msG T 5 0) 3)), .int (nI (mG (msG T 5 0) 4)), .int (2), .int (nI (mG (msG T 5 0) 6))]) fp_Mo_57 (pc := 112) d_Mo_get_112 H_2.1 (Nat.le_of_ble_eq_true rfl) rfl rfl rfl) ?_
      have H_12 : mH (msG (msG T 5 0) 5 2) ((h.set (95) (pm_Ob 4 [.ref (96), .ref (97), .ref (98), .ref (99), .ref (100), .ref (101), .ref (102), .ref (103), .ref (104), .ref (105), .ref (106), .ref (107), .ref (108), .ref (109), .int (nI (mG T 0)), .int (nI (mG T 1)), .int (nI (mG T 2)), .int (nI (mG T 3)), .int (nI (mG T 4)), .int (0), .int (nI (mG T 6))])).set (95) (pm_Ob 4 [.ref (96), .ref (97), .ref (98), .ref (99), .ref (100), .ref (101), .ref (102), .ref (103), .ref (104), .ref (105), .ref (106), .ref (107), .ref (108), .ref (109), .int (nI (mG (msG T 5 0) 0)), .int (nI (mG (msG T 5 0) 1)), .int (nI (mG (msG T 5 0) 2)), .int (nI (mG (msG T 5 0) 3)), .int (nI (mG (msG T 5 0) 4)), .int (2), .int (nI (mG (msG T 5 0) 6))])) := H_2.G5 (v := 2)
      refine px (fun _ => pm_dconst0 (pc := 115) d_Mo_get_115) ?_
      exact pxr (pm_dret (pc := 116) d_Mo_get_116 rfl) ⟨rfl, H_12, ((mFr.set _ _ (by omega))).tr ((mFr.set _ _ (by omega)))⟩
    · refine px (fun _ => pm_iload_n (pc := 90) d_Mo_get_90 rfl) ?_
      refine px (fun _ => pm_aload_n (pc := 91) d_Mo_get_91 rfl) ?_
      refine px (fun _ => pm_getf fl_Mo_16 (pc := 92) d_Mo_get_92 H_2.1 rfl) ?_
      refine px (fun _ => pm_iload_n (pc := 95) d_Mo_get_95 rfl) ?_
      refine px (fun _ => pm_iald (j := j) (pc := 96) d_Mo_get_96 H_2.2.2.2.1 (rfl) (hj) (by decide)) ?_
      refine pxb (fun _ => pm_icmp_ge (pc := 97) (tgt := 110) d_Mo_get_97 (by decide)) (fun c_13 => ?_) (fun c_13 => ?_)
      · refine px (fun _ => pm_aload_n (pc := 110) d_Mo_get_110 rfl) ?_
        refine px (fun _ => pm_iconst (v := 2) (pc := 111) d_Mo_get_111 rfl) ?_
        refine px (fun _ => pm_putfC (c' := pm_Ob 4 [.ref (96), .ref (97), .ref (98), .ref (99), .ref (100), .ref (101), .ref (102), .ref (103), .ref (104), .ref (105), .ref (106), .ref (107), .ref (108), .ref (109), .int (nI (mG (msG T 5 0) 0)), .int (nI (mG (msG T 5 0) 1)), .int (nI (mG (msG T 5 0) 2)), .int (nI (mG (msG T 5 0) 3)), .int (nI (mG (msG T 5 0) 4)), .int (2), .int (nI (mG (msG T 5 0) 6))]) fp_Mo_57 (pc := 112) d_Mo_get_112 H_2.1 (Nat.le_of_ble_eq_true rfl) rfl rfl rfl) ?_
        have H_14 : mH (msG (msG T 5 0) 5 2) ((h.set (95) (pm_Ob 4 [.ref (96), .ref (97), .ref (98), .ref (99), .ref (100), .ref (101), .ref (102), .ref (103), .ref (104), .ref (105), .ref (106), .ref (107), .ref (108), .ref (109), .int (nI (mG T 0)), .int (nI (mG T 1)), .int (nI (mG T 2)), .int (nI (mG T 3)), .int (nI (mG T 4)), .int (0), .int (nI (mG T 6))])).set (95) (pm_Ob 4 [.ref (96), .ref (97), .ref (98), .ref (99), .ref (100), .ref (101), .ref (102), .ref (103), .ref (104), .ref (105), .ref (106), .ref (107), .ref (108), .ref (109), .int (nI (mG (msG T 5 0) 0)), .int (nI (mG (msG T 5 0) 1)), .int (nI (mG (msG T 5 0) 2)), .int (nI (mG (msG T 5 0) 3)), .int (nI (mG (msG T 5 0) 4)), .int (2), .int (nI (mG (msG T 5 0) 6))])) := H_2.G5 (v := 2)
        refine px (fun _ => pm_dconst0 (pc := 115) d_Mo_get_115) ?_
        exact pxr (pm_dret (pc := 116) d_Mo_get_116 rfl) ⟨rfl, H_14, ((mFr.set _ _ (by omega))).tr ((mFr.set _ _ (by omega)))⟩
      · refine px (fun _ => pm_iload_n (pc := 100) d_Mo_get_100 rfl) ?_
        refine px (fun _ => pm_aload_n (pc := 101) d_Mo_get_101 rfl) ?_
        refine px (fun _ => pm_getf fl_Mo_19 (pc := 102) d_Mo_get_102 H_2.1 rfl) ?_
        refine px (fun _ => pm_iload_n (pc := 105) d_Mo_get_105 rfl) ?_
        refine px (fun _ => pm_iald (j := j) (pc := 106) d_Mo_get_106 H_2.2.2.2.2.1 (rfl) (hj) (by decide)) ?_
        refine pxb (fun _ => pm_icmp_lt (pc := 107) (tgt := 117) d_Mo_get_107 (by decide)) (fun c_15 => ?_) (fun c_15 => ?_)
        · exact absurd ⟨by assumption, by assumption, by assumption, Int32.not_le.mpr (by assumption)⟩ hb
        · refine px (fun _ => pm_aload_n (pc := 110) d_Mo_get_110 rfl) ?_
          refine px (fun _ => pm_iconst (v := 2) (pc := 111) d_Mo_get_111 rfl) ?_
          refine px (fun _ => pm_putfC (c' := pm_Ob 4 [.ref (96), .ref (97), .ref (98), .ref (99), .ref (100), .ref (101), .ref (102), .ref (103), .ref (104), .ref (105), .ref (106), .ref (107), .ref (108), .ref (109), .int (nI (mG (msG T 5 0) 0)), .int (nI (mG (msG T 5 0) 1)), .int (nI (mG (msG T 5 0) 2)), .int (nI (mG (msG T 5 0) 3)), .int (nI (mG (msG T 5 0) 4)), .int (2), .int (nI (mG (msG T 5 0) 6))]) fp_Mo_57 (pc := 112) d_Mo_get_112 H_2.1 (Nat.le_of_ble_eq_true rfl) rfl rfl rfl) ?_
          have H_16 : mH (msG (msG T 5 0) 5 2) ((h.set (95) (pm_Ob 4 [.ref (96), .ref (97), .ref (98), .ref (99), .ref (100), .ref (101), .ref (102), .ref (103), .ref (104), .ref (105), .ref (106), .ref (107), .ref (108), .ref (109), .int (nI (mG T 0)), .int (nI (mG T 1)), .int (nI (mG T 2)), .int (nI (mG T 3)), .int (nI (mG T 4)), .int (0), .int (nI (mG T 6))])).set (95) (pm_Ob 4 [.ref (96), .ref (97), .ref (98), .ref (99), .ref (100), .ref (101), .ref (102), .ref (103), .ref (104), .ref (105), .ref (106), .ref (107), .ref (108), .ref (109), .int (nI (mG (msG T 5 0) 0)), .int (nI (mG (msG T 5 0) 1)), .int (nI (mG (msG T 5 0) 2)), .int (nI (mG (msG T 5 0) 3)), .int (nI (mG (msG T 5 0) 4)), .int (2), .int (nI (mG (msG T 5 0) 6))])) := H_2.G5 (v := 2)
          refine px (fun _ => pm_dconst0 (pc := 115) d_Mo_get_115) ?_
          exact pxr (pm_dret (pc := 116) d_Mo_get_116 rfl) ⟨rfl, H_16, ((mFr.set _ _ (by omega))).tr ((mFr.set _ _ (by omega)))⟩
set_option maxHeartbeats 1000000 in
set_option maxRecDepth 20000 in
theorem m_get_ok3 {l : Launch} {G : pm_G} {fi : Bool} {h : pm_H} {T : mS} {j x y : Nat} (hl : l.stackTraces = false) (H : mH T h) (hj : j < 20) (hkk : mA T 0 j = 3) (hm : mA T 4 j < 14) (hst : ¬ nI (mA T 10 (mA T 4 j)) = 0) (h4 : mA T 2 j ≤ 4) (h5 : mA T 3 j ≤ 4) (hx : x < mA T 2 j) (hy : y < mA T 3 j) : pm_Cn l G fi fi 0 0 M_Mo_get [.ref (95), .int (nI j), .int (nI x), .int (nI y)] h (m_P (some (.double (mV T (j * 16 + x * 4 + y)))) (msG T 5 0) h) := by
  refine pm_Cn.of hl (by decide) (Nat.le_of_ble_eq_true rfl) ?_
  refine px (fun _ => pm_aload_n (pc := 0) d_Mo_get_0 rfl) ?_
  refine px (fun _ => pm_aload_n (pc := 1) d_Mo_get_1 rfl) ?_
  refine px (fun _ => pm_iload_n (pc := 2) d_Mo_get_2 rfl) ?_
  refine px (fun _ => k_Mo_get_3 (kc1 := 0) (ks1 := 0) (kc := 0) (ks := 0) (av := [.int (nI j)]) (st := [.ref (95)]) H.1 (m_ns_in hl H hj) rfl rfl (Nat.le_of_ble_eq_true rfl)) ?_
  refine pxb (fun _ => pm_if_eq (pc := 6) (tgt := 13) d_Mo_get_6 (by decide)) (fun c_1 => ?_) (fun c_1 => absurd (by decide) c_1)
  refine px (fun _ => pm_iconst (v := 0) (pc := 13) d_Mo_get_13 rfl) ?_
  refine px (fun _ => pm_putfC (c' := pm_Ob 4 [.ref (96), .ref (97), .ref (98), .ref (99), .ref (100), .ref (101), .ref (102), .ref (103), .ref (104), .ref (105), .ref (106), .ref (107), .ref (108), .ref (109), .int (nI (mG T 0)), .int (nI (mG T 1)), .int (nI (mG T 2)), .int (nI (mG T 3)), .int (nI (mG T 4)), .int (0), .int (nI (mG T 6))]) fp_Mo_57 (pc := 14) d_Mo_get_14 H.1 (Nat.le_of_ble_eq_true rfl) rfl rfl rfl) ?_
  have H_2 : mH (msG T 5 0) (h.set (95) (pm_Ob 4 [.ref (96), .ref (97), .ref (98), .ref (99), .ref (100), .ref (101), .ref (102), .ref (103), .ref (104), .ref (105), .ref (106), .ref (107), .ref (108), .ref (109), .int (nI (mG T 0)), .int (nI (mG T 1)), .int (nI (mG T 2)), .int (nI (mG T 3)), .int (nI (mG T 4)), .int (0), .int (nI (mG T 6))])) := H.G5 (v := 0)
  refine px (fun _ => pm_aload_n (pc := 17) d_Mo_get_17 rfl) ?_
  refine px (fun _ => pm_getf fl_Mo_57 (pc := 18) d_Mo_get_18 H_2.1 rfl) ?_
  refine pxb (fun _ => pm_if_eq (pc := 21) (tgt := 26) d_Mo_get_21 (by decide)) (fun c_3 => ?_) (fun c_3 => absurd (rfl) c_3)
  refine px (fun _ => pm_aload_n (pc := 26) d_Mo_get_26 rfl) ?_
  refine px (fun _ => pm_getf fl_Mo_7 (pc := 27) d_Mo_get_27 H_2.1 rfl) ?_
  refine px (fun _ => pm_iload_n (pc := 30) d_Mo_get_30 rfl) ?_
  refine px (fun _ => pm_iald (j := j) (pc := 31) d_Mo_get_31 H_2.2.1 (rfl) (hj) (by decide)) ?_
  refine px (fun _ => pm_iconst (v := 1) (pc := 32) d_Mo_get_32 rfl) ?_
  refine pxb (fun _ => pm_icmp_eq (pc := 33) (tgt := 70) d_Mo_get_33 (by decide)) (fun c_4 => absurd c_4 (fun q => absurd (show nI (mA T 0 j) = 1 from q) (by rw [hkk]; decide))) (fun c_4 => ?_)
  refine px (fun _ => pm_aload_n (pc := 36) d_Mo_get_36 rfl) ?_
  refine px (fun _ => pm_getf fl_Mo_7 (pc := 37) d_Mo_get_37 H_2.1 rfl) ?_
  refine px (fun _ => pm_iload_n (pc := 40) d_Mo_get_40 rfl) ?_
  refine px (fun _ => pm_iald (j := j) (pc := 41) d_Mo_get_41 H_2.2.1 (rfl) (hj) (by decide)) ?_
  refine px (fun _ => pm_iconst (v := 2) (pc := 42) d_Mo_get_42 rfl) ?_
  refine pxb (fun _ => pm_icmp_eq (pc := 43) (tgt := 70) d_Mo_get_43 (by decide)) (fun c_5 => absurd c_5 (fun q => absurd (show nI (mA T 0 j) = 2 from q) (by rw [hkk]; decide))) (fun c_5 => ?_)
  refine px (fun _ => pm_aload_n (pc := 46) d_Mo_get_46 rfl) ?_
  refine px (fun _ => pm_getf fl_Mo_7 (pc := 47) d_Mo_get_47 H_2.1 rfl) ?_
  refine px (fun _ => pm_iload_n (pc := 50) d_Mo_get_50 rfl) ?_
  refine px (fun _ => pm_iald (j := j) (pc := 51) d_Mo_get_51 H_2.2.1 (rfl) (hj) (by decide)) ?_
  refine px (fun _ => pm_iconst (v := 3) (pc := 52) d_Mo_get_52 rfl) ?_
  refine pxn (fun _ => pm_icmp_ne (pc := 53) (tgt := 74) d_Mo_get_53 (by decide)) (fun c_6 => absurd (show nI (mA T 0 j) = 3 by rw [hkk]; rfl) c_6) (fun c_6 => ?_)
  refine px (fun _ => pm_aload_n (pc := 56) d_Mo_get_56 rfl) ?_
  refine px (fun _ => pm_getf fl_Mo_41 (pc := 57) d_Mo_get_57 H_2.1 rfl) ?_
  refine px (fun _ => pm_aload_n (pc := 60) d_Mo_get_60 rfl) ?_
  refine px (fun _ => pm_getf fl_Mo_22 (pc := 61) d_Mo_get_61 H_2.1 rfl) ?_
  refine px (fun _ => pm_iload_n (pc := 64) d_Mo_get_64 rfl) ?_
  refine px (fun _ => pm_iald (j := j) (pc := 65) d_Mo_get_65 H_2.2.2.2.2.2.1 (rfl) (hj) (by decide)) ?_
  refine px (fun _ => pm_iald (j := mA T 4 j) (pc := 66) d_Mo_get_66 H_2.2.2.2.2.2.2.2.2.2.2.2.1 (rfl) (hm) (by decide)) ?_
  refine pxb (fun _ => pm_if_eq (pc := 67) (tgt := 74) d_Mo_get_67 (by decide)) (fun c_7 => absurd c_7 (hst)) (fun c_7 => ?_)
  refine px (fun _ => pm_iconst (v := 1) (pc := 70) d_Mo_get_70 rfl) ?_
  refine px (fun _ => pm_goto (tgt := 75) (pc := 71) d_Mo_get_71 (by decide)) ?_
  refine px (fun _ => pm_istore (lv' := [(4, .int (1)), (0, .ref (95)), (1, .int (nI j)), (2, .int (nI x)), (3, .int (nI y))]) (pc := 75) d_Mo_get_75 (by decide) rfl) ?_
  refine px (fun _ => pm_iload (pc := 77) d_Mo_get_77 rfl) ?_
  refine pxb (fun _ => pm_if_eq (pc := 79) (tgt := 110) d_Mo_get_79 (by decide)) (fun c_8 => absurd c_8 (by decide)) (fun c_8 => ?_)
  refine px (fun _ => pm_iload_n (pc := 82) d_Mo_get_82 rfl) ?_
  refine pxb (fun _ => pm_if_lt (pc := 83) (tgt := 110) d_Mo_get_83 (by decide)) (fun c_9 => absurd c_9 (nI_pos (by omega))) (fun c_9 => ?_)
  refine px (fun _ => pm_iload_n (pc := 86) d_Mo_get_86 rfl) ?_
  refine pxb (fun _ => pm_if_lt (pc := 87) (tgt := 110) d_Mo_get_87 (by decide)) (fun c_10 => absurd c_10 (nI_pos (by omega))) (fun c_10 => ?_)
  refine px (fun _ => pm_iload_n (pc := 90) d_Mo_get_90 rfl) ?_
  refine px (fun _ => pm_aload_n (pc := 91) d_Mo_get_91 rfl) ?_
  refine px (fun _ => pm_getf fl_Mo_16 (pc := 92) d_Mo_get_92 H_2.1 rfl) ?_
  refine px (fun _ => pm_iload_n (pc := 95) d_Mo_get_95 rfl) ?_
  refine px (fun _ => pm_iald (j := j) (pc := 96) d_Mo_get_96 H_2.2.2.2.1 (rfl) (hj) (by decide)) ?_
  refine pxb (fun _ => pm_icmp_ge (pc := 97) (tgt := 110) d_Mo_get_97 (by decide)) (fun c_11 => absurd c_11 (fun q => absurd ((nI_leI (a := mA T 2 j) (b := x) (by omega) (by omega)).mp q) (by omega))) (fun c_11 => ?_)
  refine px (fun _ => pm_iload_n (pc := 100) d_Mo_get_100 rfl) ?_
  refine px (fun _ => pm_aload_n (pc := 101) d_Mo_get_101 rfl) ?_
  refine px (fun _ => pm_getf fl_Mo_19 (pc := 102) d_Mo_get_102 H_2.1 rfl) ?_
  refine px (fun _ => pm_iload_n (pc := 105) d_Mo_get_105 rfl) ?_
  refine px (fun _ => pm_iald (j := j) (pc := 106) d_Mo_get_106 H_2.2.2.2.2.1 (rfl) (hj) (by decide)) ?_
  refine pxb (fun _ => pm_icmp_lt (pc := 107) (tgt := 117) d_Mo_get_107 (by decide)) (fun c_12 => ?_) (fun c_12 => absurd ((nI_ltI (a := y) (b := mA T 3 j) (by omega) (by omega)).mpr hy) c_12)
  refine px (fun _ => pm_aload_n (pc := 117) d_Mo_get_117 rfl) ?_
  refine px (fun _ => pm_getf fl_Mo_25 (pc := 118) d_Mo_get_118 H_2.1 rfl) ?_
  refine px (fun _ => pm_iload_n (pc := 121) d_Mo_get_121 rfl) ?_
  refine px (fun _ => pm_bipush (v := 16) (pc := 122) d_Mo_get_122 rfl) ?_
  refine px (fun _ => pm_imulN (a := j) (b := 16) (pc := 124) d_Mo_get_124) ?_
  refine px (fun _ => pm_iload_n (pc := 125) d_Mo_get_125 rfl) ?_
  refine px (fun _ => pm_iconst (v := 4) (pc := 126) d_Mo_get_126 rfl) ?_
  refine px (fun _ => pm_imulN (a := x) (b := 4) (pc := 127) d_Mo_get_127) ?_
  refine px (fun _ => pm_iaddN (a := (j * 16)) (b := (x * 4)) (pc := 128) d_Mo_get_128) ?_
  refine px (fun _ => pm_iload_n (pc := 129) d_Mo_get_129 rfl) ?_
  refine px (fun _ => pm_iaddN (a := ((j * 16) + (x * 4))) (b := y) (pc := 130) d_Mo_get_130) ?_
  refine px (fun _ => pm_dald (j := j * 16 + x * 4 + y) (pc := 131) d_Mo_get_131 H_2.2.2.2.2.2.2.1 (rfl) (by omega) (by decide)) ?_
  exact pxr (pm_dret (pc := 132) d_Mo_get_132 rfl) ⟨rfl, H_2, (mFr.set _ _ (by omega))⟩
set_option maxHeartbeats 1000000 in
set_option maxRecDepth 20000 in
theorem m_slot_b1 {l : Launch} {G : pm_G} {fi : Bool} {h : pm_H} {T : mS} {s w9 : Int32} (hl : l.stackTraces = false) (H : mH T h) (hs : s < 0 ∨ 20 ≤ s) : pm_Cn l G fi fi 0 0 M_Mo_slot [.ref (95), .int (s), .int (w9)] h (m_P (some (.int 0)) (msG T 5 1) h) := by
  refine pm_Cn.of hl (by decide) (Nat.le_of_ble_eq_true rfl) ?_
  refine px (fun _ => pm_aload_n (pc := 0) d_Mo_slot_0 rfl) ?_
  refine px (fun _ => pm_aload_n (pc := 1) d_Mo_slot_1 rfl) ?_
  refine px (fun _ => pm_iload_n (pc := 2) d_Mo_slot_2 rfl) ?_
  refine px (fun _ => k_Mo_slot_3 (kc1 := 0) (ks1 := 0) (kc := 0) (ks := 0) (av := [.int (s)]) (st := [.ref (95)]) H.1 (m_ns_out hl H hs) rfl rfl (Nat.le_of_ble_eq_true rfl)) ?_
  refine pxn (fun _ => pm_if_ne (pc := 6) (tgt := 19) d_Mo_slot_6 (by decide)) (fun c_1 => ?_) (fun c_1 => absurd c_1 (by decide))
  refine px (fun _ => pm_iconst (v := 1) (pc := 19) d_Mo_slot_19 rfl) ?_
  refine px (fun _ => pm_goto (tgt := 58) (pc := 20) d_Mo_slot_20 (by decide)) ?_
  refine px (fun _ => pm_putfC (c' := pm_Ob 4 [.ref (96), .ref (97), .ref (98), .ref (99), .ref (100), .ref (101), .ref (102), .ref (103), .ref (104), .ref (105), .ref (106), .ref (107), .ref (108), .ref (109), .int (nI (mG T 0)), .int (nI (mG T 1)), .int (nI (mG T 2)), .int (nI (mG T 3)), .int (nI (mG T 4)), .int (1), .int (nI (mG T 6))]) fp_Mo_57 (pc := 58) d_Mo_slot_58 H.1 (Nat.le_of_ble_eq_true rfl) rfl rfl rfl) ?_
  have H_2 : mH (msG T 5 1) (h.set (95) (pm_Ob 4 [.ref (96), .ref (97), .ref (98), .ref (99), .ref (100), .ref (101), .ref (102), .ref (103), .ref (104), .ref (105), .ref (106), .ref (107), .ref (108), .ref (109), .int (nI (mG T 0)), .int (nI (mG T 1)), .int (nI (mG T 2)), .int (nI (mG T 3)), .int (nI (mG T 4)), .int (1), .int (nI (mG T 6))])) := H.G5 (v := 1)
  refine px (fun _ => pm_aload_n (pc := 61) d_Mo_slot_61 rfl) ?_
  refine px (fun _ => pm_getf fl_Mo_57 (pc := 62) d_Mo_slot_62 H_2.1 rfl) ?_
  refine pxb (fun _ => pm_if_eq (pc := 65) (tgt := 70) d_Mo_slot_65 (by decide)) (fun c_3 => absurd c_3 (fun q => absurd (show nI 1 = 0 from q) (by decide))) (fun c_3 => ?_)
  refine px (fun _ => pm_iconst (v := 0) (pc := 68) d_Mo_slot_68 rfl) ?_
  exact pxr (pm_iret (pc := 69) d_Mo_slot_69 rfl rfl) ⟨rfl, H_2, (mFr.set _ _ (by omega))⟩
set_option maxHeartbeats 1000000 in
set_option maxRecDepth 20000 in
theorem m_slot_b2 {l : Launch} {G : pm_G} {fi : Bool} {h : pm_H} {T : mS} {j : Nat} {w9 : Int32} (hl : l.stackTraces = false) (H : mH T h) (hj : j < 20) (hs : w9 < 0 ∨ ¬ w9 ≤ 3) : pm_Cn l G fi fi 0 0 M_Mo_slot [.ref (95), .int (nI j), .int (w9)] h (m_P (some (.int 0)) (msG T 5 1) h) := by
  refine pm_Cn.of hl (by decide) (Nat.le_of_ble_eq_true rfl) ?_
  refine px (fun _ => pm_aload_n (pc := 0) d_Mo_slot_0 rfl) ?_
  refine px (fun _ => pm_aload_n (pc := 1) d_Mo_slot_1 rfl) ?_
  refine px (fun _ => pm_iload_n (pc := 2) d_Mo_slot_2 rfl) ?_
  refine px (fun _ => k_Mo_slot_3 (kc1 := 0) (ks1 := 0) (kc := 0) (ks := 0) (av := [.int (nI j)]) (st := [.ref (95)]) H.1 (m_ns_in hl H hj) rfl rfl (Nat.le_of_ble_eq_true rfl)) ?_
  refine pxn (fun _ => pm_if_ne (pc := 6) (tgt := 19) d_Mo_slot_6 (by decide)) (fun c_1 => absurd (by decide) c_1) (fun c_1 => ?_)
  refine px (fun _ => pm_aload_n (pc := 9) d_Mo_slot_9 rfl) ?_
  refine px (fun _ => pm_iload_n (pc := 10) d_Mo_slot_10 rfl) ?_
  refine px (fun _ => pm_iconst (v := 0) (pc := 11) d_Mo_slot_11 rfl) ?_
  refine px (fun _ => pm_iconst (v := 3) (pc := 12) d_Mo_slot_12 rfl) ?_
  refine px (fun _ => k_Mo_slot_13 (kc1 := 0) (ks1 := 0) (kc := 0) (ks := 0) (av := [.int (w9), .int (0), .int (3)]) (st := [.ref (95)]) H.1 (m_out_out hl H (fun q => hs.elim q.1 (fun r => r (Int32.not_lt.mp q.2)))) rfl rfl (Nat.le_of_ble_eq_true rfl)) ?_
  refine pxb (fun _ => pm_if_eq (pc := 16) (tgt := 23) d_Mo_slot_16 (by decide)) (fun c_2 => absurd c_2 (by decide)) (fun c_2 => ?_)
  refine px (fun _ => pm_iconst (v := 1) (pc := 19) d_Mo_slot_19 rfl) ?_
  refine px (fun _ => pm_goto (tgt := 58) (pc := 20) d_Mo_slot_20 (by decide)) ?_
  refine px (fun _ => pm_putfC (c' := pm_Ob 4 [.ref (96), .ref (97), .ref (98), .ref (99), .ref (100), .ref (101), .ref (102), .ref (103), .ref (104), .ref (105), .ref (106), .ref (107), .ref (108), .ref (109), .int (nI (mG T 0)), .int (nI (mG T 1)), .int (nI (mG T 2)), .int (nI (mG T 3)), .int (nI (mG T 4)), .int (1), .int (nI (mG T 6))]) fp_Mo_57 (pc := 58) d_Mo_slot_58 H.1 (Nat.le_of_ble_eq_true rfl) rfl rfl rfl) ?_
  have H_3 : mH (msG T 5 1) (h.set (95) (pm_Ob 4 [.ref (96), .ref (97), .ref (98), .ref (99), .ref (100), .ref (101), .ref (102), .ref (103), .ref (104), .ref (105), .ref (106), .ref (107), .ref (108), .ref (109), .int (nI (mG T 0)), .int (nI (mG T 1)), .int (nI (mG T 2)), .int (nI (mG T 3)), .int (nI (mG T 4)), .int (1), .int (nI (mG T 6))])) := H.G5 (v := 1)
  refine px (fun _ => pm_aload_n (pc := 61) d_Mo_slot_61 rfl) ?_
  refine px (fun _ => pm_getf fl_Mo_57 (pc := 62) d_Mo_slot_62 H_3.1 rfl) ?_
  refine pxb (fun _ => pm_if_eq (pc := 65) (tgt := 70) d_Mo_slot_65 (by decide)) (fun c_4 => absurd c_4 (fun q => absurd (show nI 1 = 0 from q) (by decide))) (fun c_4 => ?_)
  refine px (fun _ => pm_iconst (v := 0) (pc := 68) d_Mo_slot_68 rfl) ?_
  exact pxr (pm_iret (pc := 69) d_Mo_slot_69 rfl rfl) ⟨rfl, H_3, (mFr.set _ _ (by omega))⟩
set_option maxHeartbeats 1000000 in
set_option maxRecDepth 20000 in
theorem m_slot_0 {l : Launch} {G : pm_G} {fi : Bool} {h : pm_H} {T : mS} {j : Nat} (hl : l.stackTraces = false) (H : mH T h) (hj : j < 20) : pm_Cn l G fi fi 0 0 M_Mo_slot [.ref (95), .int (nI j), .int (0)] h (m_P (some (.int (nI (mA T 0 j)))) (msG T 5 0) h) := by
  refine pm_Cn.of hl (by decide) (Nat.le_of_ble_eq_true rfl) ?_
  refine px (fun _ => pm_aload_n (pc := 0) d_Mo_slot_0 rfl) ?_
  refine px (fun _ => pm_aload_n (pc := 1) d_Mo_slot_1 rfl) ?_
  refine px (fun _ => pm_iload_n (pc := 2) d_Mo_slot_2 rfl) ?_
  refine px (fun _ => k_Mo_slot_3 (kc1 := 0) (ks1 := 0) (kc := 0) (ks := 0) (av := [.int (nI j)]) (st := [.ref (95)]) H.1 (m_ns_in hl H hj) rfl rfl (Nat.le_of_ble_eq_true rfl)) ?_
  refine pxn (fun _ => pm_if_ne (pc := 6) (tgt := 19) d_Mo_slot_6 (by decide)) (fun c_1 => absurd (by decide) c_1) (fun c_1 => ?_)
  refine px (fun _ => pm_aload_n (pc := 9) d_Mo_slot_9 rfl) ?_
  refine px (fun _ => pm_iload_n (pc := 10) d_Mo_slot_10 rfl) ?_
  refine px (fun _ => pm_iconst (v := 0) (pc := 11) d_Mo_slot_11 rfl) ?_
  refine px (fun _ => pm_iconst (v := 3) (pc := 12) d_Mo_slot_12 rfl) ?_
  refine px (fun _ => k_Mo_slot_13 (kc1 := 0) (ks1 := 0) (kc := 0) (ks := 0) (av := [.int (0), .int (0), .int (3)]) (st := [.ref (95)]) H.1 (m_out_in hl H (by decide) (by decide)) rfl rfl (Nat.le_of_ble_eq_true rfl)) ?_
  refine pxb (fun _ => pm_if_eq (pc := 16) (tgt := 23) d_Mo_slot_16 (by decide)) (fun c_2 => ?_) (fun c_2 => absurd (by decide) c_2)
  refine px (fun _ => pm_iload_n (pc := 23) d_Mo_slot_23 rfl) ?_
  refine pxb (fun _ => pm_if_le (pc := 24) (tgt := 57) d_Mo_slot_24 (by decide)) (fun c_3 => ?_) (fun c_3 => absurd (by decide) c_3)
  refine px (fun _ => pm_iconst (v := 0) (pc := 57) d_Mo_slot_57 rfl) ?_
  refine px (fun _ => pm_putfC (c' := pm_Ob 4 [.ref (96), .ref (97), .ref (98), .ref (99), .ref (100), .ref (101), .ref (102), .ref (103), .ref (104), .ref (105), .ref (106), .ref (107), .ref (108), .ref (109), .int (nI (mG T 0)), .int (nI (mG T 1)), .int (nI (mG T 2)), .int (nI (mG T 3)), .int (nI (mG T 4)), .int (0), .int (nI (mG T 6))]) fp_Mo_57 (pc := 58) d_Mo_slot_58 H.1 (Nat.le_of_ble_eq_true rfl) rfl rfl rfl) ?_
  have H_4 : mH (msG T 5 0) (h.set (95) (pm_Ob 4 [.ref (96), .ref (97), .ref (98), .ref (99), .ref (100), .ref (101), .ref (102), .ref (103), .ref (104), .ref (105), .ref (106), .ref (107), .ref (108), .ref (109), .int (nI (mG T 0)), .int (nI (mG T 1)), .int (nI (mG T 2)), .int (nI (mG T 3)), .int (nI (mG T 4)), .int (0), .int (nI (mG T 6))])) := H.G5 (v := 0)
  refine px (fun _ => pm_aload_n (pc := 61) d_Mo_slot_61 rfl) ?_
  refine px (fun _ => pm_getf fl_Mo_57 (pc := 62) d_Mo_slot_62 H_4.1 rfl) ?_
  refine pxb (fun _ => pm_if_eq (pc := 65) (tgt := 70) d_Mo_slot_65 (by decide)) (fun c_5 => ?_) (fun c_5 => absurd (rfl) c_5)
  refine px (fun _ => pm_iload_n (pc := 70) d_Mo_slot_70 rfl) ?_
  refine pxn (fun _ => pm_if_ne (pc := 71) (tgt := 81) d_Mo_slot_71 (by decide)) (fun c_6 => absurd (by decide) c_6) (fun c_6 => ?_)
  refine px (fun _ => pm_aload_n (pc := 74) d_Mo_slot_74 rfl) ?_
  refine px (fun _ => pm_getf fl_Mo_7 (pc := 75) d_Mo_slot_75 H_4.1 rfl) ?_
  refine px (fun _ => pm_iload_n (pc := 78) d_Mo_slot_78 rfl) ?_
  refine px (fun _ => pm_iald (j := j) (pc := 79) d_Mo_slot_79 H_4.2.1 (rfl) (hj) (by decide)) ?_
  exact pxr (pm_iret (pc := 80) d_Mo_slot_80 rfl rfl) ⟨rfl, H_4, (mFr.set _ _ (by omega))⟩
set_option maxHeartbeats 1000000 in
set_option maxRecDepth 20000 in
theorem m_slot_1_1 {l : Launch} {G : pm_G} {fi : Bool} {h : pm_H} {T : mS} {j : Nat} (hl : l.stackTraces = false) (H : mH T h) (hj : j < 20) (hkk : mA T 0 j = 1) : pm_Cn l G fi fi 0 0 M_Mo_slot [.ref (95), .int (nI j), .int (1)] h (m_P (some (.int (nI (mA T 1 j)))) (msG T 5 0) h) := by
  refine pm_Cn.of hl (by decide) (Nat.le_of_ble_eq_true rfl) ?_
  refine px (fun _ => pm_aload_n (pc := 0) d_Mo_slot_0 rfl) ?_
  refine px (fun _ => pm_aload_n (pc := 1) d_Mo_slot_1 rfl) ?_
  refine px (fun _ => pm_iload_n (pc := 2) d_Mo_slot_2 rfl) ?_
  refine px (fun _ => k_Mo_slot_3 (kc1 := 0) (ks1 := 0) (kc := 0) (ks := 0) (av := [.int (nI j)]) (st := [.ref (95)]) H.1 (m_ns_in hl H hj) rfl rfl (Nat.le_of_ble_eq_true rfl)) ?_
  refine pxn (fun _ => pm_if_ne (pc := 6) (tgt := 19) d_Mo_slot_6 (by decide)) (fun c_1 => absurd (by decide) c_1) (fun c_1 => ?_)
  refine px (fun _ => pm_aload_n (pc := 9) d_Mo_slot_9 rfl) ?_
  refine px (fun _ => pm_iload_n (pc := 10) d_Mo_slot_10 rfl) ?_
  refine px (fun _ => pm_iconst (v := 0) (pc := 11) d_Mo_slot_11 rfl) ?_
  refine px (fun _ => pm_iconst (v := 3) (pc := 12) d_Mo_slot_12 rfl) ?_
  refine px (fun _ => k_Mo_slot_13 (kc1 := 0) (ks1 := 0) (kc := 0) (ks := 0) (av := [.int (1), .int (0), .int (3)]) (st := [.ref (95)]) H.1 (m_out_in hl H (by decide) (by decide)) rfl rfl (Nat.le_of_ble_eq_true rfl)) ?_
  refine pxb (fun _ => pm_if_eq (pc := 16) (tgt := 23) d_Mo_slot_16 (by decide)) (fun c_2 => ?_) (fun c_2 => absurd (by decide) c_2)
  refine px (fun _ => pm_iload_n (pc := 23) d_Mo_slot_23 rfl) ?_
  refine pxb (fun _ => pm_if_le (pc := 24) (tgt := 57) d_Mo_slot_24 (by decide)) (fun c_3 => absurd c_3 (by decide)) (fun c_3 => ?_)
  refine px (fun _ => pm_aload_n (pc := 27) d_Mo_slot_27 rfl) ?_
  refine px (fun _ => pm_getf fl_Mo_7 (pc := 28) d_Mo_slot_28 H.1 rfl) ?_
  refine px (fun _ => pm_iload_n (pc := 31) d_Mo_slot_31 rfl) ?_
  refine px (fun _ => pm_iald (j := j) (pc := 32) d_Mo_slot_32 H.2.1 (rfl) (hj) (by decide)) ?_
  refine pxb (fun _ => pm_if_eq (pc := 33) (tgt := 53) d_Mo_slot_33 (by decide)) (fun c_4 => absurd c_4 (by rw [hkk]; decide)) (fun c_4 => ?_)
  refine px (fun _ => pm_aload_n (pc := 36) d_Mo_slot_36 rfl) ?_
  refine px (fun _ => pm_getf fl_Mo_7 (pc := 37) d_Mo_slot_37 H.1 rfl) ?_
  refine px (fun _ => pm_iload_n (pc := 40) d_Mo_slot_40 rfl) ?_
  refine px (fun _ => pm_iald (j := j) (pc := 41) d_Mo_slot_41 H.2.1 (rfl) (hj) (by decide)) ?_
  refine px (fun _ => pm_iconst (v := 3) (pc := 42) d_Mo_slot_42 rfl) ?_
  refine pxn (fun _ => pm_icmp_ne (pc := 43) (tgt := 57) d_Mo_slot_43 (by decide)) (fun c_5 => ?_) (fun c_5 => absurd c_5 (by rw [hkk]; decide))
  refine px (fun _ => pm_iconst (v := 0) (pc := 57) d_Mo_slot_57 rfl) ?_
  refine px (fun _ => pm_putfC (c' := pm_Ob 4 [.ref (96), .ref (97), .ref (98), .ref (99), .ref (100), .ref (101), .ref (102), .ref (103), .ref (104), .ref (105), .ref (106), .ref (107), .ref (108), .ref (109), .int (nI (mG T 0)), .int (nI (mG T 1)), .int (nI (mG T 2)), .int (nI (mG T 3)), .int (nI (mG T 4)), .int (0), .int (nI (mG T 6))]) fp_Mo_57 (pc := 58) d_Mo_slot_58 H.1 (Nat.le_of_ble_eq_true rfl) rfl rfl rfl) ?_
  have H_6 : mH (msG T 5 0) (h.set (95) (pm_Ob 4 [.ref (96), .ref (97), .ref (98), .ref (99), .ref (100), .ref (101), .ref (102), .ref (103), .ref (104), .ref (105), .ref (106), .ref (107), .ref (108), .ref (109), .int (nI (mG T 0)), .int (nI (mG T 1)), .int (nI (mG T 2)), .int (nI (mG T 3)), .int (nI (mG T 4)), .int (0), .int (nI (mG T 6))])) := H.G5 (v := 0)
  refine px (fun _ => pm_aload_n (pc := 61) d_Mo_slot_61 rfl) ?_
  refine px (fun _ => pm_getf fl_Mo_57 (pc := 62) d_Mo_slot_62 H_6.1 rfl) ?_
  refine pxb (fun _ => pm_if_eq (pc := 65) (tgt := 70) d_Mo_slot_65 (by decide)) (fun c_7 => ?_) (fun c_7 => absurd (rfl) c_7)
  refine px (fun _ => pm_iload_n (pc := 70) d_Mo_slot_70 rfl) ?_
  refine pxn (fun _ => pm_if_ne (pc := 71) (tgt := 81) d_Mo_slot_71 (by decide)) (fun c_8 => ?_) (fun c_8 => absurd c_8 (by decide))
  refine px (fun _ => pm_iload_n (pc := 81) d_Mo_slot_81 rfl) ?_
  refine px (fun _ => pm_iconst (v := 1) (pc := 82) d_Mo_slot_82 rfl) ?_
  refine pxn (fun _ => pm_icmp_ne (pc := 83) (tgt := 95) d_Mo_slot_83 (by decide)) (fun c_9 => absurd (by decide) c_9) (fun c_9 => ?_)
  refine px (fun _ => pm_aload_n (pc := 86) d_Mo_slot_86 rfl) ?_
  refine px (fun _ => pm_getf fl_Mo_13 (pc := 87) d_Mo_slot_87 H_6.1 rfl) ?_
  refine px (fun _ => pm_iload_n (pc := 90) d_Mo_slot_90 rfl) ?_
  refine px (fun _ => pm_iald (j := j) (pc := 91) d_Mo_slot_91 H_6.2.2.1 (rfl) (hj) (by decide)) ?_
  refine px (fun _ => pm_goto (tgt := 115) (pc := 92) d_Mo_slot_92 (by decide)) ?_
  exact pxr (pm_iret (pc := 115) d_Mo_slot_115 rfl rfl) ⟨rfl, H_6, (mFr.set _ _ (by omega))⟩
set_option maxHeartbeats 1000000 in
set_option maxRecDepth 20000 in
theorem m_slot_1_2 {l : Launch} {G : pm_G} {fi : Bool} {h : pm_H} {T : mS} {j : Nat} (hl : l.stackTraces = false) (H : mH T h) (hj : j < 20) (hkk : mA T 0 j = 2) : pm_Cn l G fi fi 0 0 M_Mo_slot [.ref (95), .int (nI j), .int (1)] h (m_P (some (.int (nI (mA T 1 j)))) (msG T 5 0) h) := by
  refine pm_Cn.of hl (by decide) (Nat.le_of_ble_eq_true rfl) ?_
  refine px (fun _ => pm_aload_n (pc := 0) d_Mo_slot_0 rfl) ?_
  refine px (fun _ => pm_aload_n (pc := 1) d_Mo_slot_1 rfl) ?_
  refine px (fun _ => pm_iload_n (pc := 2) d_Mo_slot_2 rfl) ?_
  refine px (fun _ => k_Mo_slot_3 (kc1 := 0) (ks1 := 0) (kc := 0) (ks := 0) (av := [.int (nI j)]) (st := [.ref (95)]) H.1 (m_ns_in hl H hj) rfl rfl (Nat.le_of_ble_eq_true rfl)) ?_
  refine pxn (fun _ => pm_if_ne (pc := 6) (tgt := 19) d_Mo_slot_6 (by decide)) (fun c_1 => absurd (by decide) c_1) (fun c_1 => ?_)
  refine px (fun _ => pm_aload_n (pc := 9) d_Mo_slot_9 rfl) ?_
  refine px (fun _ => pm_iload_n (pc := 10) d_Mo_slot_10 rfl) ?_
  refine px (fun _ => pm_iconst (v := 0) (pc := 11) d_Mo_slot_11 rfl) ?_
  refine px (fun _ => pm_iconst (v := 3) (pc := 12) d_Mo_slot_12 rfl) ?_
  refine px (fun _ => k_Mo_slot_13 (kc1 := 0) (ks1 := 0) (kc := 0) (ks := 0) (av := [.int (1), .int (0), .int (3)]) (st := [.ref (95)]) H.1 (m_out_in hl H (by decide) (by decide)) rfl rfl (Nat.le_of_ble_eq_true rfl)) ?_
  refine pxb (fun _ => pm_if_eq (pc := 16) (tgt := 23) d_Mo_slot_16 (by decide)) (fun c_2 => ?_) (fun c_2 => absurd (by decide) c_2)
  refine px (fun _ => pm_iload_n (pc := 23) d_Mo_slot_23 rfl) ?_
  refine pxb (fun _ => pm_if_le (pc := 24) (tgt := 57) d_Mo_slot_24 (by decide)) (fun c_3 => absurd c_3 (by decide)) (fun c_3 => ?_)
  refine px (fun _ => pm_aload_n (pc := 27) d_Mo_slot_27 rfl) ?_
  refine px (fun _ => pm_getf fl_Mo_7 (pc := 28) d_Mo_slot_28 H.1 rfl) ?_
  refine px (fun _ => pm_iload_n (pc := 31) d_Mo_slot_31 rfl) ?_
  refine px (fun _ => pm_iald (j := j) (pc := 32) d_Mo_slot_32 H.2.1 (rfl) (hj) (by decide)) ?_
  refine pxb (fun _ => pm_if_eq (pc := 33) (tgt := 53) d_Mo_slot_33 (by decide)) (fun c_4 => absurd c_4 (by rw [hkk]; decide)) (fun c_4 => ?_)
  refine px (fun _ => pm_aload_n (pc := 36) d_Mo_slot_36 rfl) ?_
  refine px (fun _ => pm_getf fl_Mo_7 (pc := 37) d_Mo_slot_37 H.1 rfl) ?_
  refine px (fun _ => pm_iload_n (pc := 40) d_Mo_slot_40 rfl) ?_
  refine px (fun _ => pm_iald (j := j) (pc := 41) d_Mo_slot_41 H.2.1 (rfl) (hj) (by decide)) ?_
  refine px (fun _ => pm_iconst (v := 3) (pc := 42) d_Mo_slot_42 rfl) ?_
  refine pxn (fun _ => pm_icmp_ne (pc := 43) (tgt := 57) d_Mo_slot_43 (by decide)) (fun c_5 => ?_) (fun c_5 => absurd c_5 (by rw [hkk]; decide))
  refine px (fun _ => pm_iconst (v := 0) (pc := 57) d_Mo_slot_57 rfl) ?_
  refine px (fun _ => pm_putfC (c' := pm_Ob 4 [.ref (96), .ref (97), .ref (98), .ref (99), .ref (100), .ref (101), .ref (102), .ref (103), .ref (104), .ref (105), .ref (106), .ref (107), .ref (108), .ref (109), .int (nI (mG T 0)), .int (nI (mG T 1)), .int (nI (mG T 2)), .int (nI (mG T 3)), .int (nI (mG T 4)), .int (0), .int (nI (mG T 6))]) fp_Mo_57 (pc := 58) d_Mo_slot_58 H.1 (Nat.le_of_ble_eq_true rfl) rfl rfl rfl) ?_
  have H_6 : mH (msG T 5 0) (h.set (95) (pm_Ob 4 [.ref (96), .ref (97), .ref (98), .ref (99), .ref (100), .ref (101), .ref (102), .ref (103), .ref (104), .ref (105), .ref (106), .ref (107), .ref (108), .ref (109), .int (nI (mG T 0)), .int (nI (mG T 1)), .int (nI (mG T 2)), .int (nI (mG T 3)), .int (nI (mG T 4)), .int (0), .int (nI (mG T 6))])) := H.G5 (v := 0)
  refine px (fun _ => pm_aload_n (pc := 61) d_Mo_slot_61 rfl) ?_
  refine px (fun _ => pm_getf fl_Mo_57 (pc := 62) d_Mo_slot_62 H_6.1 rfl) ?_
  refine pxb (fun _ => pm_if_eq (pc := 65) (tgt := 70) d_Mo_slot_65 (by decide)) (fun c_7 => ?_) (fun c_7 => absurd (rfl) c_7)
  refine px (fun _ => pm_iload_n (pc := 70) d_Mo_slot_70 rfl) ?_
  refine pxn (fun _ => pm_if_ne (pc := 71) (tgt := 81) d_Mo_slot_71 (by decide)) (fun c_8 => ?_) (fun c_8 => absurd c_8 (by decide))
  refine px (fun _ => pm_iload_n (pc := 81) d_Mo_slot_81 rfl) ?_
  refine px (fun _ => pm_iconst (v := 1) (pc := 82) d_Mo_slot_82 rfl) ?_
  refine pxn (fun _ => pm_icmp_ne (pc := 83) (tgt := 95) d_Mo_slot_83 (by decide)) (fun c_9 => absurd (by decide) c_9) (fun c_9 => ?_)
  refine px (fun _ => pm_aload_n (pc := 86) d_Mo_slot_86 rfl) ?_
  refine px (fun _ => pm_getf fl_Mo_13 (pc := 87) d_Mo_slot_87 H_6.1 rfl) ?_
  refine px (fun _ => pm_iload_n (pc := 90) d_Mo_slot_90 rfl) ?_
  refine px (fun _ => pm_iald (j := j) (pc := 91) d_Mo_slot_91 H_6.2.2.1 (rfl) (hj) (by decide)) ?_
  refine px (fun _ => pm_goto (tgt := 115) (pc := 92) d_Mo_slot_92 (by decide)) ?_
  exact pxr (pm_iret (pc := 115) d_Mo_slot_115 rfl rfl) ⟨rfl, H_6, (mFr.set _ _ (by omega))⟩
set_option maxHeartbeats 1000000 in
set_option maxRecDepth 20000 in
theorem m_slot_1_3 {l : Launch} {G : pm_G} {fi : Bool} {h : pm_H} {T : mS} {j : Nat} (hl : l.stackTraces = false) (H : mH T h) (hj : j < 20) (hkk : mA T 0 j = 3) (hr : mG T 6 = 1) : pm_Cn l G fi fi 0 0 M_Mo_slot [.ref (95), .int (nI j), .int (1)] h (m_P (some (.int (nI (mA T 1 j)))) (msG T 5 0) h) := by
  refine pm_Cn.of hl (by decide) (Nat.le_of_ble_eq_true rfl) ?_
  refine px (fun _ => pm_aload_n (pc := 0) d_Mo_slot_0 rfl) ?_
  refine px (fun _ => pm_aload_n (pc := 1) d_Mo_slot_1 rfl) ?_
  refine px (fun _ => pm_iload_n (pc := 2) d_Mo_slot_2 rfl) ?_
  refine px (fun _ => k_Mo_slot_3 (kc1 := 0) (ks1 := 0) (kc := 0) (ks := 0) (av := [.int (nI j)]) (st := [.ref (95)]) H.1 (m_ns_in hl H hj) rfl rfl (Nat.le_of_ble_eq_true rfl)) ?_
  refine pxn (fun _ => pm_if_ne (pc := 6) (tgt := 19) d_Mo_slot_6 (by decide)) (fun c_1 => absurd (by decide) c_1) (fun c_1 => ?_)
  refine px (fun _ => pm_aload_n (pc := 9) d_Mo_slot_9 rfl) ?_
  refine px (fun _ => pm_iload_n (pc := 10) d_Mo_slot_10 rfl) ?_
  refine px (fun _ => pm_iconst (v := 0) (pc := 11) d_Mo_slot_11 rfl) ?_
  refine px (fun _ => pm_iconst (v := 3) (pc := 12) d_Mo_slot_12 rfl) ?_
  refine px (fun _ => k_Mo_slot_13 (kc1 := 0) (ks1 := 0) (kc := 0) (ks := 0) (av := [.int (1), .int (0), .int (3)]) (st := [.ref (95)]) H.1 (m_out_in hl H (by decide) (by decide)) rfl rfl (Nat.le_of_ble_eq_true rfl)) ?_
  refine pxb (fun _ => pm_if_eq (pc := 16) (tgt := 23) d_Mo_slot_16 (by decide)) (fun c_2 => ?_) (fun c_2 => absurd (by decide) c_2)
  refine px (fun _ => pm_iload_n (pc := 23) d_Mo_slot_23 rfl) ?_
  refine pxb (fun _ => pm_if_le (pc := 24) (tgt := 57) d_Mo_slot_24 (by decide)) (fun c_3 => absurd c_3 (by decide)) (fun c_3 => ?_)
  refine px (fun _ => pm_aload_n (pc := 27) d_Mo_slot_27 rfl) ?_
  refine px (fun _ => pm_getf fl_Mo_7 (pc := 28) d_Mo_slot_28 H.1 rfl) ?_
  refine px (fun _ => pm_iload_n (pc := 31) d_Mo_slot_31 rfl) ?_
  refine px (fun _ => pm_iald (j := j) (pc := 32) d_Mo_slot_32 H.2.1 (rfl) (hj) (by decide)) ?_
  refine pxb (fun _ => pm_if_eq (pc := 33) (tgt := 53) d_Mo_slot_33 (by decide)) (fun c_4 => absurd c_4 (by rw [hkk]; decide)) (fun c_4 => ?_)
  refine px (fun _ => pm_aload_n (pc := 36) d_Mo_slot_36 rfl) ?_
  refine px (fun _ => pm_getf fl_Mo_7 (pc := 37) d_Mo_slot_37 H.1 rfl) ?_
  refine px (fun _ => pm_iload_n (pc := 40) d_Mo_slot_40 rfl) ?_
  refine px (fun _ => pm_iald (j := j) (pc := 41) d_Mo_slot_41 H.2.1 (rfl) (hj) (by decide)) ?_
  refine px (fun _ => pm_iconst (v := 3) (pc := 42) d_Mo_slot_42 rfl) ?_
  refine pxn (fun _ => pm_icmp_ne (pc := 43) (tgt := 57) d_Mo_slot_43 (by decide)) (fun c_5 => absurd (by rw [hkk]; rfl) c_5) (fun c_5 => ?_)
  refine px (fun _ => pm_aload_n (pc := 46) d_Mo_slot_46 rfl) ?_
  refine px (fun _ => pm_getf fl_Mo_53 (pc := 47) d_Mo_slot_47 H.1 rfl) ?_
  refine pxn (fun _ => pm_if_ne (pc := 50) (tgt := 57) d_Mo_slot_50 (by decide)) (fun c_6 => ?_) (fun c_6 => absurd c_6 (by rw [hr]; decide))
  refine px (fun _ => pm_iconst (v := 0) (pc := 57) d_Mo_slot_57 rfl) ?_
  refine px (fun _ => pm_putfC (c' := pm_Ob 4 [.ref (96), .ref (97), .ref (98), .ref (99), .ref (100), .ref (101), .ref (102), .ref (103), .ref (104), .ref (105), .ref (106), .ref (107), .ref (108), .ref (109), .int (nI (mG T 0)), .int (nI (mG T 1)), .int (nI (mG T 2)), .int (nI (mG T 3)), .int (nI (mG T 4)), .int (0), .int (nI (mG T 6))]) fp_Mo_57 (pc := 58) d_Mo_slot_58 H.1 (Nat.le_of_ble_eq_true rfl) rfl rfl rfl) ?_
  have H_7 : mH (msG T 5 0) (h.set (95) (pm_Ob 4 [.ref (96), .ref (97), .ref (98), .ref (99), .ref (100), .ref (101), .ref (102), .ref (103), .ref (104), .ref (105), .ref (106), .ref (107), .ref (108), .ref (109), .int (nI (mG T 0)), .int (nI (mG T 1)), .int (nI (mG T 2)), .int (nI (mG T 3)), .int (nI (mG T 4)), .int (0), .int (nI (mG T 6))])) := H.G5 (v := 0)
  refine px (fun _ => pm_aload_n (pc := 61) d_Mo_slot_61 rfl) ?_
  refine px (fun _ => pm_getf fl_Mo_57 (pc := 62) d_Mo_slot_62 H_7.1 rfl) ?_
  refine pxb (fun _ => pm_if_eq (pc := 65) (tgt := 70) d_Mo_slot_65 (by decide)) (fun c_8 => ?_) (fun c_8 => absurd (rfl) c_8)
  refine px (fun _ => pm_iload_n (pc := 70) d_Mo_slot_70 rfl) ?_
  refine pxn (fun _ => pm_if_ne (pc := 71) (tgt := 81) d_Mo_slot_71 (by decide)) (fun c_9 => ?_) (fun c_9 => absurd c_9 (by decide))
  refine px (fun _ => pm_iload_n (pc := 81) d_Mo_slot_81 rfl) ?_
  refine px (fun _ => pm_iconst (v := 1) (pc := 82) d_Mo_slot_82 rfl) ?_
  refine pxn (fun _ => pm_icmp_ne (pc := 83) (tgt := 95) d_Mo_slot_83 (by decide)) (fun c_10 => absurd (by decide) c_10) (fun c_10 => ?_)
  refine px (fun _ => pm_aload_n (pc := 86) d_Mo_slot_86 rfl) ?_
  refine px (fun _ => pm_getf fl_Mo_13 (pc := 87) d_Mo_slot_87 H_7.1 rfl) ?_
  refine px (fun _ => pm_iload_n (pc := 90) d_Mo_slot_90 rfl) ?_
  refine px (fun _ => pm_iald (j := j) (pc := 91) d_Mo_slot_91 H_7.2.2.1 (rfl) (hj) (by decide)) ?_
  refine px (fun _ => pm_goto (tgt := 115) (pc := 92) d_Mo_slot_92 (by decide)) ?_
  exact pxr (pm_iret (pc := 115) d_Mo_slot_115 rfl rfl) ⟨rfl, H_7, (mFr.set _ _ (by omega))⟩
set_option maxHeartbeats 1000000 in
set_option maxRecDepth 20000 in
theorem m_slot_m1_0 {l : Launch} {G : pm_G} {fi : Bool} {h : pm_H} {T : mS} {j : Nat} (hl : l.stackTraces = false) (H : mH T h) (hj : j < 20) (hkk : mA T 0 j = 0) : pm_Cn l G fi fi 0 0 M_Mo_slot [.ref (95), .int (nI j), .int (1)] h (m_P (some (.int 0)) (msG T 5 2) h) := by
  refine pm_Cn.of hl (by decide) (Nat.le_of_ble_eq_true rfl) ?_
  refine px (fun _ => pm_aload_n (pc := 0) d_Mo_slot_0 rfl) ?_
  refine px (fun _ => pm_aload_n (pc := 1) d_Mo_slot_1 rfl) ?_
  refine px (fun _ => pm_iload_n (pc := 2) d_Mo_slot_2 rfl) ?_
  refine px (fun _ => k_Mo_slot_3 (kc1 := 0) (ks1 := 0) (kc := 0) (ks := 0) (av := [.int (nI j)]) (st := [.ref (95)]) H.1 (m_ns_in hl H hj) rfl rfl (Nat.le_of_ble_eq_true rfl)) ?_
  refine pxn (fun _ => pm_if_ne (pc := 6) (tgt := 19) d_Mo_slot_6 (by decide)) (fun c_1 => absurd (by decide) c_1) (fun c_1 => ?_)
  refine px (fun _ => pm_aload_n (pc := 9) d_Mo_slot_9 rfl) ?_
  refine px (fun _ => pm_iload_n (pc := 10) d_Mo_slot_10 rfl) ?_
  refine px (fun _ => pm_iconst (v := 0) (pc := 11) d_Mo_slot_11 rfl) ?_
  refine px (fun _ => pm_iconst (v := 3) (pc := 12) d_Mo_slot_12 rfl) ?_
  refine px (fun _ => k_Mo_slot_13 (kc1 := 0) (ks1 := 0) (kc := 0) (ks := 0) (av := [.int (1), .int (0), .int (3)]) (st := [.ref (95)]) H.1 (m_out_in hl H (by decide) (by decide)) rfl rfl (Nat.le_of_ble_eq_true rfl)) ?_
  refine pxb (fun _ => pm_if_eq (pc := 16) (tgt := 23) d_Mo_slot_16 (by decide)) (fun c_2 => ?_) (fun c_2 => absurd (by decide) c_2)
  refine px (fun _ => pm_iload_n (pc := 23) d_Mo_slot_23 rfl) ?_
  refine pxb (fun _ => pm_if_le (pc := 24) (tgt := 57) d_Mo_slot_24 (by decide)) (fun c_3 => absurd c_3 (by decide)) (fun c_3 => ?_)
  refine px (fun _ => pm_aload_n (pc := 27) d_Mo_slot_27 rfl) ?_
  refine px (fun _ => pm_getf fl_Mo_7 (pc := 28) d_Mo_slot_28 H.1 rfl) ?_
  refine px (fun _ => pm_iload_n (pc := 31) d_Mo_slot_31 rfl) ?_
  refine px (fun _ => pm_iald (j := j) (pc := 32) d_Mo_slot_32 H.2.1 (rfl) (hj) (by decide)) ?_
  refine pxb (fun _ => pm_if_eq (pc := 33) (tgt := 53) d_Mo_slot_33 (by decide)) (fun c_4 => ?_) (fun c_4 => absurd (by rw [hkk]; rfl) c_4)
  refine px (fun _ => pm_iconst (v := 2) (pc := 53) d_Mo_slot_53 rfl) ?_
  refine px (fun _ => pm_goto (tgt := 58) (pc := 54) d_Mo_slot_54 (by decide)) ?_
  refine px (fun _ => pm_putfC (c' := pm_Ob 4 [.ref (96), .ref (97), .ref (98), .ref (99), .ref (100), .ref (101), .ref (102), .ref (103), .ref (104), .ref (105), .ref (106), .ref (107), .ref (108), .ref (109), .int (nI (mG T 0)), .int (nI (mG T 1)), .int (nI (mG T 2)), .int (nI (mG T 3)), .int (nI (mG T 4)), .int (2), .int (nI (mG T 6))]) fp_Mo_57 (pc := 58) d_Mo_slot_58 H.1 (Nat.le_of_ble_eq_true rfl) rfl rfl rfl) ?_
  have H_5 : mH (msG T 5 2) (h.set (95) (pm_Ob 4 [.ref (96), .ref (97), .ref (98), .ref (99), .ref (100), .ref (101), .ref (102), .ref (103), .ref (104), .ref (105), .ref (106), .ref (107), .ref (108), .ref (109), .int (nI (mG T 0)), .int (nI (mG T 1)), .int (nI (mG T 2)), .int (nI (mG T 3)), .int (nI (mG T 4)), .int (2), .int (nI (mG T 6))])) := H.G5 (v := 2)
  refine px (fun _ => pm_aload_n (pc := 61) d_Mo_slot_61 rfl) ?_
  refine px (fun _ => pm_getf fl_Mo_57 (pc := 62) d_Mo_slot_62 H_5.1 rfl) ?_
  refine pxb (fun _ => pm_if_eq (pc := 65) (tgt := 70) d_Mo_slot_65 (by decide)) (fun c_6 => absurd c_6 (fun q => absurd (show nI 2 = 0 from q) (by decide))) (fun c_6 => ?_)
  refine px (fun _ => pm_iconst (v := 0) (pc := 68) d_Mo_slot_68 rfl) ?_
  exact pxr (pm_iret (pc := 69) d_Mo_slot_69 rfl rfl) ⟨rfl, H_5, (mFr.set _ _ (by omega))⟩
set_option maxHeartbeats 1000000 in
set_option maxRecDepth 20000 in
theorem m_slot_m1_3 {l : Launch} {G : pm_G} {fi : Bool} {h : pm_H} {T : mS} {j : Nat} (hl : l.stackTraces = false) (H : mH T h) (hj : j < 20) (hkk : mA T 0 j = 3) (hr : mG T 6 = 0) : pm_Cn l G fi fi 0 0 M_Mo_slot [.ref (95), .int (nI j), .int (1)] h (m_P (some (.int 0)) (msG T 5 2) h) := by
  refine pm_Cn.of hl (by decide) (Nat.le_of_ble_eq_true rfl) ?_
  refine px (fun _ => pm_aload_n (pc := 0) d_Mo_slot_0 rfl) ?_
  refine px (fun _ => pm_aload_n (pc := 1) d_Mo_slot_1 rfl) ?_
  refine px (fun _ => pm_iload_n (pc := 2) d_Mo_slot_2 rfl) ?_
  refine px (fun _ => k_Mo_slot_3 (kc1 := 0) (ks1 := 0) (kc := 0) (ks := 0) (av := [.int (nI j)]) (st := [.ref (95)]) H.1 (m_ns_in hl H hj) rfl rfl (Nat.le_of_ble_eq_true rfl)) ?_
  refine pxn (fun _ => pm_if_ne (pc := 6) (tgt := 19) d_Mo_slot_6 (by decide)) (fun c_1 => absurd (by decide) c_1) (fun c_1 => ?_)
  refine px (fun _ => pm_aload_n (pc := 9) d_Mo_slot_9 rfl) ?_
  refine px (fun _ => pm_iload_n (pc := 10) d_Mo_slot_10 rfl) ?_
  refine px (fun _ => pm_iconst (v := 0) (pc := 11) d_Mo_slot_11 rfl) ?_
  refine px (fun _ => pm_iconst (v := 3) (pc := 12) d_Mo_slot_12 rfl) ?_
  refine px (fun _ => k_Mo_slot_13 (kc1 := 0) (ks1 := 0) (kc := 0) (ks := 0) (av := [.int (1), .int (0), .int (3)]) (st := [.ref (95)]) H.1 (m_out_in hl H (by decide) (by decide)) rfl rfl (Nat.le_of_ble_eq_true rfl)) ?_
  refine pxb (fun _ => pm_if_eq (pc := 16) (tgt := 23) d_Mo_slot_16 (by decide)) (fun c_2 => ?_) (fun c_2 => absurd (by decide) c_2)
  refine px (fun _ => pm_iload_n (pc := 23) d_Mo_slot_23 rfl) ?_
  refine pxb (fun _ => pm_if_le (pc := 24) (tgt := 57) d_Mo_slot_24 (by decide)) (fun c_3 => absurd c_3 (by decide)) (fun c_3 => ?_)
  refine px (fun _ => pm_aload_n (pc := 27) d_Mo_slot_27 rfl) ?_
  refine px (fun _ => pm_getf fl_Mo_7 (pc := 28) d_Mo_slot_28 H.1 rfl) ?_
  refine px (fun _ => pm_iload_n (pc := 31) d_Mo_slot_31 rfl) ?_
  refine px (fun _ => pm_iald (j := j) (pc := 32) d_Mo_slot_32 H.2.1 (rfl) (hj) (by decide)) ?_
  refine pxb (fun _ => pm_if_eq (pc := 33) (tgt := 53) d_Mo_slot_33 (by decide)) (fun c_4 => absurd c_4 (by rw [hkk]; decide)) (fun c_4 => ?_)
  refine px (fun _ => pm_aload_n (pc := 36) d_Mo_slot_36 rfl) ?_
  refine px (fun _ => pm_getf fl_Mo_7 (pc := 37) d_Mo_slot_37 H.1 rfl) ?_
  refine px (fun _ => pm_iload_n (pc := 40) d_Mo_slot_40 rfl) ?_
  refine px (fun _ => pm_iald (j := j) (pc := 41) d_Mo_slot_41 H.2.1 (rfl) (hj) (by decide)) ?_
  refine px (fun _ => pm_iconst (v := 3) (pc := 42) d_Mo_slot_42 rfl) ?_
  refine pxn (fun _ => pm_icmp_ne (pc := 43) (tgt := 57) d_Mo_slot_43 (by decide)) (fun c_5 => absurd (by rw [hkk]; rfl) c_5) (fun c_5 => ?_)
  refine px (fun _ => pm_aload_n (pc := 46) d_Mo_slot_46 rfl) ?_
  refine px (fun _ => pm_getf fl_Mo_53 (pc := 47) d_Mo_slot_47 H.1 rfl) ?_
  refine pxn (fun _ => pm_if_ne (pc := 50) (tgt := 57) d_Mo_slot_50 (by decide)) (fun c_6 => absurd (by rw [hr]; rfl) c_6) (fun c_6 => ?_)
  refine px (fun _ => pm_iconst (v := 2) (pc := 53) d_Mo_slot_53 rfl) ?_
  refine px (fun _ => pm_goto (tgt := 58) (pc := 54) d_Mo_slot_54 (by decide)) ?_
  refine px (fun _ => pm_putfC (c' := pm_Ob 4 [.ref (96), .ref (97), .ref (98), .ref (99), .ref (100), .ref (101), .ref (102), .ref (103), .ref (104), .ref (105), .ref (106), .ref (107), .ref (108), .ref (109), .int (nI (mG T 0)), .int (nI (mG T 1)), .int (nI (mG T 2)), .int (nI (mG T 3)), .int (nI (mG T 4)), .int (2), .int (nI (mG T 6))]) fp_Mo_57 (pc := 58) d_Mo_slot_58 H.1 (Nat.le_of_ble_eq_true rfl) rfl rfl rfl) ?_
  have H_7 : mH (msG T 5 2) (h.set (95) (pm_Ob 4 [.ref (96), .ref (97), .ref (98), .ref (99), .ref (100), .ref (101), .ref (102), .ref (103), .ref (104), .ref (105), .ref (106), .ref (107), .ref (108), .ref (109), .int (nI (mG T 0)), .int (nI (mG T 1)), .int (nI (mG T 2)), .int (nI (mG T 3)), .int (nI (mG T 4)), .int (2), .int (nI (mG T 6))])) := H.G5 (v := 2)
  refine px (fun _ => pm_aload_n (pc := 61) d_Mo_slot_61 rfl) ?_
  refine px (fun _ => pm_getf fl_Mo_57 (pc := 62) d_Mo_slot_62 H_7.1 rfl) ?_
  refine pxb (fun _ => pm_if_eq (pc := 65) (tgt := 70) d_Mo_slot_65 (by decide)) (fun c_8 => absurd c_8 (fun q => absurd (show nI 2 = 0 from q) (by decide))) (fun c_8 => ?_)
  refine px (fun _ => pm_iconst (v := 0) (pc := 68) d_Mo_slot_68 rfl) ?_
  exact pxr (pm_iret (pc := 69) d_Mo_slot_69 rfl rfl) ⟨rfl, H_7, (mFr.set _ _ (by omega))⟩
set_option maxHeartbeats 1000000 in
set_option maxRecDepth 20000 in
theorem m_slot_2_1 {l : Launch} {G : pm_G} {fi : Bool} {h : pm_H} {T : mS} {j : Nat} (hl : l.stackTraces = false) (H : mH T h) (hj : j < 20) (hkk : mA T 0 j = 1) : pm_Cn l G fi fi 0 0 M_Mo_slot [.ref (95), .int (nI j), .int (2)] h (m_P (some (.int (nI (mA T 2 j)))) (msG T 5 0) h) := by
  refine pm_Cn.of hl (by decide) (Nat.le_of_ble_eq_true rfl) ?_
  refine px (fun _ => pm_aload_n (pc := 0) d_Mo_slot_0 rfl) ?_
  refine px (fun _ => pm_aload_n (pc := 1) d_Mo_slot_1 rfl) ?_
  refine px (fun _ => pm_iload_n (pc := 2) d_Mo_slot_2 rfl) ?_
  refine px (fun _ => k_Mo_slot_3 (kc1 := 0) (ks1 := 0) (kc := 0) (ks := 0) (av := [.int (nI j)]) (st := [.ref (95)]) H.1 (m_ns_in hl H hj) rfl rfl (Nat.le_of_ble_eq_true rfl)) ?_
  refine pxn (fun _ => pm_if_ne (pc := 6) (tgt := 19) d_Mo_slot_6 (by decide)) (fun c_1 => absurd (by decide) c_1) (fun c_1 => ?_)
  refine px (fun _ => pm_aload_n (pc := 9) d_Mo_slot_9 rfl) ?_
  refine px (fun _ => pm_iload_n (pc := 10) d_Mo_slot_10 rfl) ?_
  refine px (fun _ => pm_iconst (v := 0) (pc := 11) d_Mo_slot_11 rfl) ?_
  refine px (fun _ => pm_iconst (v := 3) (pc := 12) d_Mo_slot_12 rfl) ?_
  refine px (fun _ => k_Mo_slot_13 (kc1 := 0) (ks1 := 0) (kc := 0) (ks := 0) (av := [.int (2), .int (0), .int (3)]) (st := [.ref (95)]) H.1 (m_out_in hl H (by decide) (by decide)) rfl rfl (Nat.le_of_ble_eq_true rfl)) ?_
  refine pxb (fun _ => pm_if_eq (pc := 16) (tgt := 23) d_Mo_slot_16 (by decide)) (fun c_2 => ?_) (fun c_2 => absurd (by decide) c_2)
  refine px (fun _ => pm_iload_n (pc := 23) d_Mo_slot_23 rfl) ?_
  refine pxb (fun _ => pm_if_le (pc := 24) (tgt := 57) d_Mo_slot_24 (by decide)) (fun c_3 => absurd c_3 (by decide)) (fun c_3 => ?_)
  refine px (fun _ => pm_aload_n (pc := 27) d_Mo_slot_27 rfl) ?_
  refine px (fun _ => pm_getf fl_Mo_7 (pc := 28) d_Mo_slot_28 H.1 rfl) ?_
  refine px (fun _ => pm_iload_n (pc := 31) d_Mo_slot_31 rfl) ?_
  refine px (fun _ => pm_iald (j := j) (pc := 32) d_Mo_slot_32 H.2.1 (rfl) (hj) (by decide)) ?_
  refine pxb (fun _ => pm_if_eq (pc := 33) (tgt := 53) d_Mo_slot_33 (by decide)) (fun c_4 => absurd c_4 (by rw [hkk]; decide)) (fun c_4 => ?_)
  refine px (fun _ => pm_aload_n (pc := 36) d_Mo_slot_36 rfl) ?_
  refine px (fun _ => pm_getf fl_Mo_7 (pc := 37) d_Mo_slot_37 H.1 rfl) ?_
  refine px (fun _ => pm_iload_n (pc := 40) d_Mo_slot_40 rfl) ?_
  refine px (fun _ => pm_iald (j := j) (pc := 41) d_Mo_slot_41 H.2.1 (rfl) (hj) (by decide)) ?_
  refine px (fun _ => pm_iconst (v := 3) (pc := 42) d_Mo_slot_42 rfl) ?_
  refine pxn (fun _ => pm_icmp_ne (pc := 43) (tgt := 57) d_Mo_slot_43 (by decide)) (fun c_5 => ?_) (fun c_5 => absurd c_5 (by rw [hkk]; decide))
  refine px (fun _ => pm_iconst (v := 0) (pc := 57) d_Mo_slot_57 rfl) ?_
  refine px (fun _ => pm_putfC (c' := pm_Ob 4 [.ref (96), .ref (97), .ref (98), .ref (99), .ref (100), .ref (101), .ref (102), .ref (103), .ref (104), .ref (105), .ref (106), .ref (107), .ref (108), .ref (109), .int (nI (mG T 0)), .int (nI (mG T 1)), .int (nI (mG T 2)), .int (nI (mG T 3)), .int (nI (mG T 4)), .int (0), .int (nI (mG T 6))]) fp_Mo_57 (pc := 58) d_Mo_slot_58 H.1 (Nat.le_of_ble_eq_true rfl) rfl rfl rfl) ?_
  have H_6 : mH (msG T 5 0) (h.set (95) (pm_Ob 4 [.ref (96), .ref (97), .ref (98), .ref (99), .ref (100), .ref (101), .ref (102), .ref (103), .ref (104), .ref (105), .ref (106), .ref (107), .ref (108), .ref (109), .int (nI (mG T 0)), .int (nI (mG T 1)), .int (nI (mG T 2)), .int (nI (mG T 3)), .int (nI (mG T 4)), .int (0), .int (nI (mG T 6))])) := H.G5 (v := 0)
  refine px (fun _ => pm_aload_n (pc := 61) d_Mo_slot_61 rfl) ?_
  refine px (fun _ => pm_getf fl_Mo_57 (pc := 62) d_Mo_slot_62 H_6.1 rfl) ?_
  refine pxb (fun _ => pm_if_eq (pc := 65) (tgt := 70) d_Mo_slot_65 (by decide)) (fun c_7 => ?_) (fun c_7 => absurd (rfl) c_7)
  refine px (fun _ => pm_iload_n (pc := 70) d_Mo_slot_70 rfl) ?_
  refine pxn (fun _ => pm_if_ne (pc := 71) (tgt := 81) d_Mo_slot_71 (by decide)) (fun c_8 => ?_) (fun c_8 => absurd c_8 (by decide))
  refine px (fun _ => pm_iload_n (pc := 81) d_Mo_slot_81 rfl) ?_
  refine px (fun _ => pm_iconst (v := 1) (pc := 82) d_Mo_slot_82 rfl) ?_
  refine pxn (fun _ => pm_icmp_ne (pc := 83) (tgt := 95) d_Mo_slot_83 (by decide)) (fun c_9 => ?_) (fun c_9 => absurd c_9 (by decide))
  refine px (fun _ => pm_iload_n (pc := 95) d_Mo_slot_95 rfl) ?_
  refine px (fun _ => pm_iconst (v := 2) (pc := 96) d_Mo_slot_96 rfl) ?_
  refine pxn (fun _ => pm_icmp_ne (pc := 97) (tgt := 109) d_Mo_slot_97 (by decide)) (fun c_10 => absurd (by decide) c_10) (fun c_10 => ?_)
  refine px (fun _ => pm_aload_n (pc := 100) d_Mo_slot_100 rfl) ?_
  refine px (fun _ => pm_getf fl_Mo_16 (pc := 101) d_Mo_slot_101 H_6.1 rfl) ?_
  refine px (fun _ => pm_iload_n (pc := 104) d_Mo_slot_104 rfl) ?_
  refine px (fun _ => pm_iald (j := j) (pc := 105) d_Mo_slot_105 H_6.2.2.2.1 (rfl) (hj) (by decide)) ?_
  refine px (fun _ => pm_goto (tgt := 115) (pc := 106) d_Mo_slot_106 (by decide)) ?_
  exact pxr (pm_iret (pc := 115) d_Mo_slot_115 rfl rfl) ⟨rfl, H_6, (mFr.set _ _ (by omega))⟩
set_option maxHeartbeats 1000000 in
set_option maxRecDepth 20000 in
theorem m_slot_2_2 {l : Launch} {G : pm_G} {fi : Bool} {h : pm_H} {T : mS} {j : Nat} (hl : l.stackTraces = false) (H : mH T h) (hj : j < 20) (hkk : mA T 0 j = 2) : pm_Cn l G fi fi 0 0 M_Mo_slot [.ref (95), .int (nI j), .int (2)] h (m_P (some (.int (nI (mA T 2 j)))) (msG T 5 0) h) := by
  refine pm_Cn.of hl (by decide) (Nat.le_of_ble_eq_true rfl) ?_
  refine px (fun _ => pm_aload_n (pc := 0) d_Mo_slot_0 rfl) ?_
  refine px (fun _ => pm_aload_n (pc := 1) d_Mo_slot_1 rfl) ?_
  refine px (fun _ => pm_iload_n (pc := 2) d_Mo_slot_2 rfl) ?_
  refine px (fun _ => k_Mo_slot_3 (kc1 := 0) (ks1 := 0) (kc := 0) (ks := 0) (av := [.int (nI j)]) (st := [.ref (95)]) H.1 (m_ns_in hl H hj) rfl rfl (Nat.le_of_ble_eq_true rfl)) ?_
  refine pxn (fun _ => pm_if_ne (pc := 6) (tgt := 19) d_Mo_slot_6 (by decide)) (fun c_1 => absurd (by decide) c_1) (fun c_1 => ?_)
  refine px (fun _ => pm_aload_n (pc := 9) d_Mo_slot_9 rfl) ?_
  refine px (fun _ => pm_iload_n (pc := 10) d_Mo_slot_10 rfl) ?_
  refine px (fun _ => pm_iconst (v := 0) (pc := 11) d_Mo_slot_11 rfl) ?_
  refine px (fun _ => pm_iconst (v := 3) (pc := 12) d_Mo_slot_12 rfl) ?_
  refine px (fun _ => k_Mo_slot_13 (kc1 := 0) (ks1 := 0) (kc := 0) (ks := 0) (av := [.int (2), .int (0), .int (3)]) (st := [.ref (95)]) H.1 (m_out_in hl H (by decide) (by decide)) rfl rfl (Nat.le_of_ble_eq_true rfl)) ?_
  refine pxb (fun _ => pm_if_eq (pc := 16) (tgt := 23) d_Mo_slot_16 (by decide)) (fun c_2 => ?_) (fun c_2 => absurd (by decide) c_2)
  refine px (fun _ => pm_iload_n (pc := 23) d_Mo_slot_23 rfl) ?_
  refine pxb (fun _ => pm_if_le (pc := 24) (tgt := 57) d_Mo_slot_24 (by decide)) (fun c_3 => absurd c_3 (by decide)) (fun c_3 => ?_)
  refine px (fun _ => pm_aload_n (pc := 27) d_Mo_slot_27 rfl) ?_
  refine px (fun _ => pm_getf fl_Mo_7 (pc := 28) d_Mo_slot_28 H.1 rfl) ?_
  refine px (fun _ => pm_iload_n (pc := 31) d_Mo_slot_31 rfl) ?_
  refine px (fun _ => pm_iald (j := j) (pc := 32) d_Mo_slot_32 H.2.1 (rfl) (hj) (by decide)) ?_
  refine pxb (fun _ => pm_if_eq (pc := 33) (tgt := 53) d_Mo_slot_33 (by decide)) (fun c_4 => absurd c_4 (by rw [hkk]; decide)) (fun c_4 => ?_)
  refine px (fun _ => pm_aload_n (pc := 36) d_Mo_slot_36 rfl) ?_
  refine px (fun _ => pm_getf fl_Mo_7 (pc := 37) d_Mo_slot_37 H.1 rfl) ?_
  refine px (fun _ => pm_iload_n (pc := 40) d_Mo_slot_40 rfl) ?_
  refine px (fun _ => pm_iald (j := j) (pc := 41) d_Mo_slot_41 H.2.1 (rfl) (hj) (by decide)) ?_
  refine px (fun _ => pm_iconst (v := 3) (pc := 42) d_Mo_slot_42 rfl) ?_
  refine pxn (fun _ => pm_icmp_ne (pc := 43) (tgt := 57) d_Mo_slot_43 (by decide)) (fun c_5 => ?_) (fun c_5 => absurd c_5 (by rw [hkk]; decide))
  refine px (fun _ => pm_iconst (v := 0) (pc := 57) d_Mo_slot_57 rfl) ?_
  refine px (fun _ => pm_putfC (c' := pm_Ob 4 [.ref (96), .ref (97), .ref (98), .ref (99), .ref (100), .ref (101), .ref (102), .ref (103), .ref (104), .ref (105), .ref (106), .ref (107), .ref (108), .ref (109), .int (nI (mG T 0)), .int (nI (mG T 1)), .int (nI (mG T 2)), .int (nI (mG T 3)), .int (nI (mG T 4)), .int (0), .int (nI (mG T 6))]) fp_Mo_57 (pc := 58) d_Mo_slot_58 H.1 (Nat.le_of_ble_eq_true rfl) rfl rfl rfl) ?_
  have H_6 : mH (msG T 5 0) (h.set (95) (pm_Ob 4 [.ref (96), .ref (97), .ref (98), .ref (99), .ref (100), .ref (101), .ref (102), .ref (103), .ref (104), .ref (105), .ref (106), .ref (107), .ref (108), .ref (109), .int (nI (mG T 0)), .int (nI (mG T 1)), .int (nI (mG T 2)), .int (nI (mG T 3)), .int (nI (mG T 4)), .int (0), .int (nI (mG T 6))])) := H.G5 (v := 0)
  refine px (fun _ => pm_aload_n (pc := 61) d_Mo_slot_61 rfl) ?_
  refine px (fun _ => pm_getf fl_Mo_57 (pc := 62) d_Mo_slot_62 H_6.1 rfl) ?_
  refine pxb (fun _ => pm_if_eq (pc := 65) (tgt := 70) d_Mo_slot_65 (by decide)) (fun c_7 => ?_) (fun c_7 => absurd (rfl) c_7)
  refine px (fun _ => pm_iload_n (pc := 70) d_Mo_slot_70 rfl) ?_
  refine pxn (fun _ => pm_if_ne (pc := 71) (tgt := 81) d_Mo_slot_71 (by decide)) (fun c_8 => ?_) (fun c_8 => absurd c_8 (by decide))
  refine px (fun _ => pm_iload_n (pc := 81) d_Mo_slot_81 rfl) ?_
  refine px (fun _ => pm_iconst (v := 1) (pc := 82) d_Mo_slot_82 rfl) ?_
  refine pxn (fun _ => pm_icmp_ne (pc := 83) (tgt := 95) d_Mo_slot_83 (by decide)) (fun c_9 => ?_) (fun c_9 => absurd c_9 (by decide))
  refine px (fun _ => pm_iload_n (pc := 95) d_Mo_slot_95 rfl) ?_
  refine px (fun _ => pm_iconst (v := 2) (pc := 96) d_Mo_slot_96 rfl) ?_
  refine pxn (fun _ => pm_icmp_ne (pc := 97) (tgt := 109) d_Mo_slot_97 (by decide)) (fun c_10 => absurd (by decide) c_10) (fun c_10 => ?_)
  refine px (fun _ => pm_aload_n (pc := 100) d_Mo_slot_100 rfl) ?_
  refine px (fun _ => pm_getf fl_Mo_16 (pc := 101) d_Mo_slot_101 H_6.1 rfl) ?_
  refine px (fun _ => pm_iload_n (pc := 104) d_Mo_slot_104 rfl) ?_
  refine px (fun _ => pm_iald (j := j) (pc := 105) d_Mo_slot_105 H_6.2.2.2.1 (rfl) (hj) (by decide)) ?_
  refine px (fun _ => pm_goto (tgt := 115) (pc := 106) d_Mo_slot_106 (by decide)) ?_
  exact pxr (pm_iret (pc := 115) d_Mo_slot_115 rfl rfl) ⟨rfl, H_6, (mFr.set _ _ (by omega))⟩
set_option maxHeartbeats 1000000 in
set_option maxRecDepth 20000 in
theorem m_slot_2_3 {l : Launch} {G : pm_G} {fi : Bool} {h : pm_H} {T : mS} {j : Nat} (hl : l.stackTraces = false) (H : mH T h) (hj : j < 20) (hkk : mA T 0 j = 3) (hr : mG T 6 = 1) : pm_Cn l G fi fi 0 0 M_Mo_slot [.ref (95), .int (nI j), .int (2)] h (m_P (some (.int (nI (mA T 2 j)))) (msG T 5 0) h) := by
  refine pm_Cn.of hl (by decide) (Nat.le_of_ble_eq_true rfl) ?_
  refine px (fun _ => pm_aload_n (pc := 0) d_Mo_slot_0 rfl) ?_
  refine px (fun _ => pm_aload_n (pc := 1) d_Mo_slot_1 rfl) ?_
  refine px (fun _ => pm_iload_n (pc := 2) d_Mo_slot_2 rfl) ?_
  refine px (fun _ => k_Mo_slot_3 (kc1 := 0) (ks1 := 0) (kc := 0) (ks := 0) (av := [.int (nI j)]) (st := [.ref (95)]) H.1 (m_ns_in hl H hj) rfl rfl (Nat.le_of_ble_eq_true rfl)) ?_
  refine pxn (fun _ => pm_if_ne (pc := 6) (tgt := 19) d_Mo_slot_6 (by decide)) (fun c_1 => absurd (by decide) c_1) (fun c_1 => ?_)
  refine px (fun _ => pm_aload_n (pc := 9) d_Mo_slot_9 rfl) ?_
  refine px (fun _ => pm_iload_n (pc := 10) d_Mo_slot_10 rfl) ?_
  refine px (fun _ => pm_iconst (v := 0) (pc := 11) d_Mo_slot_11 rfl) ?_
  refine px (fun _ => pm_iconst (v := 3) (pc := 12) d_Mo_slot_12 rfl) ?_
  refine px (fun _ => k_Mo_slot_13 (kc1 := 0) (ks1 := 0) (kc := 0) (ks := 0) (av := [.int (2), .int (0), .int (3)]) (st := [.ref (95)]) H.1 (m_out_in hl H (by decide) (by decide)) rfl rfl (Nat.le_of_ble_eq_true rfl)) ?_
  refine pxb (fun _ => pm_if_eq (pc := 16) (tgt := 23) d_Mo_slot_16 (by decide)) (fun c_2 => ?_) (fun c_2 => absurd (by decide) c_2)
  refine px (fun _ => pm_iload_n (pc := 23) d_Mo_slot_23 rfl) ?_
  refine pxb (fun _ => pm_if_le (pc := 24) (tgt := 57) d_Mo_slot_24 (by decide)) (fun c_3 => absurd c_3 (by decide)) (fun c_3 => ?_)
  refine px (fun _ => pm_aload_n (pc := 27) d_Mo_slot_27 rfl) ?_
  refine px (fun _ => pm_getf fl_Mo_7 (pc := 28) d_Mo_slot_28 H.1 rfl) ?_
  refine px (fun _ => pm_iload_n (pc := 31) d_Mo_slot_31 rfl) ?_
  refine px (fun _ => pm_iald (j := j) (pc := 32) d_Mo_slot_32 H.2.1 (rfl) (hj) (by decide)) ?_
  refine pxb (fun _ => pm_if_eq (pc := 33) (tgt := 53) d_Mo_slot_33 (by decide)) (fun c_4 => absurd c_4 (by rw [hkk]; decide)) (fun c_4 => ?_)
  refine px (fun _ => pm_aload_n (pc := 36) d_Mo_slot_36 rfl) ?_
  refine px (fun _ => pm_getf fl_Mo_7 (pc := 37) d_Mo_slot_37 H.1 rfl) ?_
  refine px (fun _ => pm_iload_n (pc := 40) d_Mo_slot_40 rfl) ?_
  refine px (fun _ => pm_iald (j := j) (pc := 41) d_Mo_slot_41 H.2.1 (rfl) (hj) (by decide)) ?_
  refine px (fun _ => pm_iconst (v := 3) (pc := 42) d_Mo_slot_42 rfl) ?_
  refine pxn (fun _ => pm_icmp_ne (pc := 43) (tgt := 57) d_Mo_slot_43 (by decide)) (fun c_5 => absurd (by rw [hkk]; rfl) c_5) (fun c_5 => ?_)
  refine px (fun _ => pm_aload_n (pc := 46) d_Mo_slot_46 rfl) ?_
  refine px (fun _ => pm_getf fl_Mo_53 (pc := 47) d_Mo_slot_47 H.1 rfl) ?_
  refine pxn (fun _ => pm_if_ne (pc := 50) (tgt := 57) d_Mo_slot_50 (by decide)) (fun c_6 => ?_) (fun c_6 => absurd c_6 (by rw [hr]; decide))
  refine px (fun _ => pm_iconst (v := 0) (pc := 57) d_Mo_slot_57 rfl) ?_
  refine px (fun _ => pm_putfC (c' := pm_Ob 4 [.ref (96), .ref (97), .ref (98), .ref (99), .ref (100), .ref (101), .ref (102), .ref (103), .ref (104), .ref (105), .ref (106), .ref (107), .ref (108), .ref (109), .int (nI (mG T 0)), .int (nI (mG T 1)), .int (nI (mG T 2)), .int (nI (mG T 3)), .int (nI (mG T 4)), .int (0), .int (nI (mG T 6))]) fp_Mo_57 (pc := 58) d_Mo_slot_58 H.1 (Nat.le_of_ble_eq_true rfl) rfl rfl rfl) ?_
  have H_7 : mH (msG T 5 0) (h.set (95) (pm_Ob 4 [.ref (96), .ref (97), .ref (98), .ref (99), .ref (100), .ref (101), .ref (102), .ref (103), .ref (104), .ref (105), .ref (106), .ref (107), .ref (108), .ref (109), .int (nI (mG T 0)), .int (nI (mG T 1)), .int (nI (mG T 2)), .int (nI (mG T 3)), .int (nI (mG T 4)), .int (0), .int (nI (mG T 6))])) := H.G5 (v := 0)
  refine px (fun _ => pm_aload_n (pc := 61) d_Mo_slot_61 rfl) ?_
  refine px (fun _ => pm_getf fl_Mo_57 (pc := 62) d_Mo_slot_62 H_7.1 rfl) ?_
  refine pxb (fun _ => pm_if_eq (pc := 65) (tgt := 70) d_Mo_slot_65 (by decide)) (fun c_8 => ?_) (fun c_8 => absurd (rfl) c_8)
  refine px (fun _ => pm_iload_n (pc := 70) d_Mo_slot_70 rfl) ?_
  refine pxn (fun _ => pm_if_ne (pc := 71) (tgt := 81) d_Mo_slot_71 (by decide)) (fun c_9 => ?_) (fun c_9 => absurd c_9 (by decide))
  refine px (fun _ => pm_iload_n (pc := 81) d_Mo_slot_81 rfl) ?_
  refine px (fun _ => pm_iconst (v := 1) (pc := 82) d_Mo_slot_82 rfl) ?_
  refine pxn (fun _ => pm_icmp_ne (pc := 83) (tgt := 95) d_Mo_slot_83 (by decide)) (fun c_10 => ?_) (fun c_10 => absurd c_10 (by decide))
  refine px (fun _ => pm_iload_n (pc := 95) d_Mo_slot_95 rfl) ?_
  refine px (fun _ => pm_iconst (v := 2) (pc := 96) d_Mo_slot_96 rfl) ?_
  refine pxn (fun _ => pm_icmp_ne (pc := 97) (tgt := 109) d_Mo_slot_97 (by decide)) (fun c_11 => absurd (by decide) c_11) (fun c_11 => ?_)
  refine px (fun _ => pm_aload_n (pc := 100) d_Mo_slot_100 rfl) ?_
  refine px (fun _ => pm_getf fl_Mo_16 (pc := 101) d_Mo_slot_101 H_7.1 rfl) ?_
  refine px (fun _ => pm_iload_n (pc := 104) d_Mo_slot_104 rfl) ?_
  refine px (fun _ => pm_iald (j := j) (pc := 105) d_Mo_slot_105 H_7.2.2.2.1 (rfl) (hj) (by decide)) ?_
  refine px (fun _ => pm_goto (tgt := 115) (pc := 106) d_Mo_slot_106 (by decide)) ?_
  exact pxr (pm_iret (pc := 115) d_Mo_slot_115 rfl rfl) ⟨rfl, H_7, (mFr.set _ _ (by omega))⟩
set_option maxHeartbeats 1000000 in
set_option maxRecDepth 20000 in
theorem m_slot_m2_0 {l : Launch} {G : pm_G} {fi : Bool} {h : pm_H} {T : mS} {j : Nat} (hl : l.stackTraces = false) (H : mH T h) (hj : j < 20) (hkk : mA T 0 j = 0) : pm_Cn l G fi fi 0 0 M_Mo_slot [.ref (95), .int (nI j), .int (2)] h (m_P (some (.int 0)) (msG T 5 2) h) := by
  refine pm_Cn.of hl (by decide) (Nat.le_of_ble_eq_true rfl) ?_
  refine px (fun _ => pm_aload_n (pc := 0) d_Mo_slot_0 rfl) ?_
  refine px (fun _ => pm_aload_n (pc := 1) d_Mo_slot_1 rfl) ?_
  refine px (fun _ => pm_iload_n (pc := 2) d_Mo_slot_2 rfl) ?_
  refine px (fun _ => k_Mo_slot_3 (kc1 := 0) (ks1 := 0) (kc := 0) (ks := 0) (av := [.int (nI j)]) (st := [.ref (95)]) H.1 (m_ns_in hl H hj) rfl rfl (Nat.le_of_ble_eq_true rfl)) ?_
  refine pxn (fun _ => pm_if_ne (pc := 6) (tgt := 19) d_Mo_slot_6 (by decide)) (fun c_1 => absurd (by decide) c_1) (fun c_1 => ?_)
  refine px (fun _ => pm_aload_n (pc := 9) d_Mo_slot_9 rfl) ?_
  refine px (fun _ => pm_iload_n (pc := 10) d_Mo_slot_10 rfl) ?_
  refine px (fun _ => pm_iconst (v := 0) (pc := 11) d_Mo_slot_11 rfl) ?_
  refine px (fun _ => pm_iconst (v := 3) (pc := 12) d_Mo_slot_12 rfl) ?_
  refine px (fun _ => k_Mo_slot_13 (kc1 := 0) (ks1 := 0) (kc := 0) (ks := 0) (av := [.int (2), .int (0), .int (3)]) (st := [.ref (95)]) H.1 (m_out_in hl H (by decide) (by decide)) rfl rfl (Nat.le_of_ble_eq_true rfl)) ?_
  refine pxb (fun _ => pm_if_eq (pc := 16) (tgt := 23) d_Mo_slot_16 (by decide)) (fun c_2 => ?_) (fun c_2 => absurd (by decide) c_2)
  refine px (fun _ => pm_iload_n (pc := 23) d_Mo_slot_23 rfl) ?_
  refine pxb (fun _ => pm_if_le (pc := 24) (tgt := 57) d_Mo_slot_24 (by decide)) (fun c_3 => absurd c_3 (by decide)) (fun c_3 => ?_)
  refine px (fun _ => pm_aload_n (pc := 27) d_Mo_slot_27 rfl) ?_
  refine px (fun _ => pm_getf fl_Mo_7 (pc := 28) d_Mo_slot_28 H.1 rfl) ?_
  refine px (fun _ => pm_iload_n (pc := 31) d_Mo_slot_31 rfl) ?_
  refine px (fun _ => pm_iald (j := j) (pc := 32) d_Mo_slot_32 H.2.1 (rfl) (hj) (by decide)) ?_
  refine pxb (fun _ => pm_if_eq (pc := 33) (tgt := 53) d_Mo_slot_33 (by decide)) (fun c_4 => ?_) (fun c_4 => absurd (by rw [hkk]; rfl) c_4)
  refine px (fun _ => pm_iconst (v := 2) (pc := 53) d_Mo_slot_53 rfl) ?_
  refine px (fun _ => pm_goto (tgt := 58) (pc := 54) d_Mo_slot_54 (by decide)) ?_
  refine px (fun _ => pm_putfC (c' := pm_Ob 4 [.ref (96), .ref (97), .ref (98), .ref (99), .ref (100), .ref (101), .ref (102), .ref (103), .ref (104), .ref (105), .ref (106), .ref (107), .ref (108), .ref (109), .int (nI (mG T 0)), .int (nI (mG T 1)), .int (nI (mG T 2)), .int (nI (mG T 3)), .int (nI (mG T 4)), .int (2), .int (nI (mG T 6))]) fp_Mo_57 (pc := 58) d_Mo_slot_58 H.1 (Nat.le_of_ble_eq_true rfl) rfl rfl rfl) ?_
  have H_5 : mH (msG T 5 2) (h.set (95) (pm_Ob 4 [.ref (96), .ref (97), .ref (98), .ref (99), .ref (100), .ref (101), .ref (102), .ref (103), .ref (104), .ref (105), .ref (106), .ref (107), .ref (108), .ref (109), .int (nI (mG T 0)), .int (nI (mG T 1)), .int (nI (mG T 2)), .int (nI (mG T 3)), .int (nI (mG T 4)), .int (2), .int (nI (mG T 6))])) := H.G5 (v := 2)
  refine px (fun _ => pm_aload_n (pc := 61) d_Mo_slot_61 rfl) ?_
  refine px (fun _ => pm_getf fl_Mo_57 (pc := 62) d_Mo_slot_62 H_5.1 rfl) ?_
  refine pxb (fun _ => pm_if_eq (pc := 65) (tgt := 70) d_Mo_slot_65 (by decide)) (fun c_6 => absurd c_6 (fun q => absurd (show nI 2 = 0 from q) (by decide))) (fun c_6 => ?_)
  refine px (fun _ => pm_iconst (v := 0) (pc := 68) d_Mo_slot_68 rfl) ?_
  exact pxr (pm_iret (pc := 69) d_Mo_slot_69 rfl rfl) ⟨rfl, H_5, (mFr.set _ _ (by omega))⟩
set_option maxHeartbeats 1000000 in
set_option maxRecDepth 20000 in
theorem m_slot_m2_3 {l : Launch} {G : pm_G} {fi : Bool} {h : pm_H} {T : mS} {j : Nat} (hl : l.stackTraces = false) (H : mH T h) (hj : j < 20) (hkk : mA T 0 j = 3) (hr : mG T 6 = 0) : pm_Cn l G fi fi 0 0 M_Mo_slot [.ref (95), .int (nI j), .int (2)] h (m_P (some (.int 0)) (msG T 5 2) h) := by
  refine pm_Cn.of hl (by decide) (Nat.le_of_ble_eq_true rfl) ?_
  refine px (fun _ => pm_aload_n (pc := 0) d_Mo_slot_0 rfl) ?_
  refine px (fun _ => pm_aload_n (pc := 1) d_Mo_slot_1 rfl) ?_
  refine px (fun _ => pm_iload_n (pc := 2) d_Mo_slot_2 rfl) ?_
  refine px (fun _ => k_Mo_slot_3 (kc1 := 0) (ks1 := 0) (kc := 0) (ks := 0) (av := [.int (nI j)]) (st := [.ref (95)]) H.1 (m_ns_in hl H hj) rfl rfl (Nat.le_of_ble_eq_true rfl)) ?_
  refine pxn (fun _ => pm_if_ne (pc := 6) (tgt := 19) d_Mo_slot_6 (by decide)) (fun c_1 => absurd (by decide) c_1) (fun c_1 => ?_)
  refine px (fun _ => pm_aload_n (pc := 9) d_Mo_slot_9 rfl) ?_
  refine px (fun _ => pm_iload_n (pc := 10) d_Mo_slot_10 rfl) ?_
  refine px (fun _ => pm_iconst (v := 0) (pc := 11) d_Mo_slot_11 rfl) ?_
  refine px (fun _ => pm_iconst (v := 3) (pc := 12) d_Mo_slot_12 rfl) ?_
  refine px (fun _ => k_Mo_slot_13 (kc1 := 0) (ks1 := 0) (kc := 0) (ks := 0) (av := [.int (2), .int (0), .int (3)]) (st := [.ref (95)]) H.1 (m_out_in hl H (by decide) (by decide)) rfl rfl (Nat.le_of_ble_eq_true rfl)) ?_
  refine pxb (fun _ => pm_if_eq (pc := 16) (tgt := 23) d_Mo_slot_16 (by decide)) (fun c_2 => ?_) (fun c_2 => absurd (by decide) c_2)
  refine px (fun _ => pm_iload_n (pc := 23) d_Mo_slot_23 rfl) ?_
  refine pxb (fun _ => pm_if_le (pc := 24) (tgt := 57) d_Mo_slot_24 (by decide)) (fun c_3 => absurd c_3 (by decide)) (fun c_3 => ?_)
  refine px (fun _ => pm_aload_n (pc := 27) d_Mo_slot_27 rfl) ?_
  refine px (fun _ => pm_getf fl_Mo_7 (pc := 28) d_Mo_slot_28 H.1 rfl) ?_
  refine px (fun _ => pm_iload_n (pc := 31) d_Mo_slot_31 rfl) ?_
  refine px (fun _ => pm_iald (j := j) (pc := 32) d_Mo_slot_32 H.2.1 (rfl) (hj) (by decide)) ?_
  refine pxb (fun _ => pm_if_eq (pc := 33) (tgt := 53) d_Mo_slot_33 (by decide)) (fun c_4 => absurd c_4 (by rw [hkk]; decide)) (fun c_4 => ?_)
  refine px (fun _ => pm_aload_n (pc := 36) d_Mo_slot_36 rfl) ?_
  refine px (fun _ => pm_getf fl_Mo_7 (pc := 37) d_Mo_slot_37 H.1 rfl) ?_
  refine px (fun _ => pm_iload_n (pc := 40) d_Mo_slot_40 rfl) ?_
  refine px (fun _ => pm_iald (j := j) (pc := 41) d_Mo_slot_41 H.2.1 (rfl) (hj) (by decide)) ?_
  refine px (fun _ => pm_iconst (v := 3) (pc := 42) d_Mo_slot_42 rfl) ?_
  refine pxn (fun _ => pm_icmp_ne (pc := 43) (tgt := 57) d_Mo_slot_43 (by decide)) (fun c_5 => absurd (by rw [hkk]; rfl) c_5) (fun c_5 => ?_)
  refine px (fun _ => pm_aload_n (pc := 46) d_Mo_slot_46 rfl) ?_
  refine px (fun _ => pm_getf fl_Mo_53 (pc := 47) d_Mo_slot_47 H.1 rfl) ?_
  refine pxn (fun _ => pm_if_ne (pc := 50) (tgt := 57) d_Mo_slot_50 (by decide)) (fun c_6 => absurd (by rw [hr]; rfl) c_6) (fun c_6 => ?_)
  refine px (fun _ => pm_iconst (v := 2) (pc := 53) d_Mo_slot_53 rfl) ?_
  refine px (fun _ => pm_goto (tgt := 58) (pc := 54) d_Mo_slot_54 (by decide)) ?_
  refine px (fun _ => pm_putfC (c' := pm_Ob 4 [.ref (96), .ref (97), .ref (98), .ref (99), .ref (100), .ref (101), .ref (102), .ref (103), .ref (104), .ref (105), .ref (106), .ref (107), .ref (108), .ref (109), .int (nI (mG T 0)), .int (nI (mG T 1)), .int (nI (mG T 2)), .int (nI (mG T 3)), .int (nI (mG T 4)), .int (2), .int (nI (mG T 6))]) fp_Mo_57 (pc := 58) d_Mo_slot_58 H.1 (Nat.le_of_ble_eq_true rfl) rfl rfl rfl) ?_
  have H_7 : mH (msG T 5 2) (h.set (95) (pm_Ob 4 [.ref (96), .ref (97), .ref (98), .ref (99), .ref (100), .ref (101), .ref (102), .ref (103), .ref (104), .ref (105), .ref (106), .ref (107), .ref (108), .ref (109), .int (nI (mG T 0)), .int (nI (mG T 1)), .int (nI (mG T 2)), .int (nI (mG T 3)), .int (nI (mG T 4)), .int (2), .int (nI (mG T 6))])) := H.G5 (v := 2)
  refine px (fun _ => pm_aload_n (pc := 61) d_Mo_slot_61 rfl) ?_
  refine px (fun _ => pm_getf fl_Mo_57 (pc := 62) d_Mo_slot_62 H_7.1 rfl) ?_
  refine pxb (fun _ => pm_if_eq (pc := 65) (tgt := 70) d_Mo_slot_65 (by decide)) (fun c_8 => absurd c_8 (fun q => absurd (show nI 2 = 0 from q) (by decide))) (fun c_8 => ?_)
  refine px (fun _ => pm_iconst (v := 0) (pc := 68) d_Mo_slot_68 rfl) ?_
  exact pxr (pm_iret (pc := 69) d_Mo_slot_69 rfl rfl) ⟨rfl, H_7, (mFr.set _ _ (by omega))⟩
set_option maxHeartbeats 1000000 in
set_option maxRecDepth 20000 in
theorem m_slot_3_1 {l : Launch} {G : pm_G} {fi : Bool} {h : pm_H} {T : mS} {j : Nat} (hl : l.stackTraces = false) (H : mH T h) (hj : j < 20) (hkk : mA T 0 j = 1) : pm_Cn l G fi fi 0 0 M_Mo_slot [.ref (95), .int (nI j), .int (3)] h (m_P (some (.int (nI (mA T 3 j)))) (msG T 5 0) h) := by
  refine pm_Cn.of hl (by decide) (Nat.le_of_ble_eq_true rfl) ?_
  refine px (fun _ => pm_aload_n (pc := 0) d_Mo_slot_0 rfl) ?_
  refine px (fun _ => pm_aload_n (pc := 1) d_Mo_slot_1 rfl) ?_
  refine px (fun _ => pm_iload_n (pc := 2) d_Mo_slot_2 rfl) ?_
  refine px (fun _ => k_Mo_slot_3 (kc1 := 0) (ks1 := 0) (kc := 0) (ks := 0) (av := [.int (nI j)]) (st := [.ref (95)]) H.1 (m_ns_in hl H hj) rfl rfl (Nat.le_of_ble_eq_true rfl)) ?_
  refine pxn (fun _ => pm_if_ne (pc := 6) (tgt := 19) d_Mo_slot_6 (by decide)) (fun c_1 => absurd (by decide) c_1) (fun c_1 => ?_)
  refine px (fun _ => pm_aload_n (pc := 9) d_Mo_slot_9 rfl) ?_
  refine px (fun _ => pm_iload_n (pc := 10) d_Mo_slot_10 rfl) ?_
  refine px (fun _ => pm_iconst (v := 0) (pc := 11) d_Mo_slot_11 rfl) ?_
  refine px (fun _ => pm_iconst (v := 3) (pc := 12) d_Mo_slot_12 rfl) ?_
  refine px (fun _ => k_Mo_slot_13 (kc1 := 0) (ks1 := 0) (kc := 0) (ks := 0) (av := [.int (3), .int (0), .int (3)]) (st := [.ref (95)]) H.1 (m_out_in hl H (by decide) (by decide)) rfl rfl (Nat.le_of_ble_eq_true rfl)) ?_
  refine pxb (fun _ => pm_if_eq (pc := 16) (tgt := 23) d_Mo_slot_16 (by decide)) (fun c_2 => ?_) (fun c_2 => absurd (by decide) c_2)
  refine px (fun _ => pm_iload_n (pc := 23) d_Mo_slot_23 rfl) ?_
  refine pxb (fun _ => pm_if_le (pc := 24) (tgt := 57) d_Mo_slot_24 (by decide)) (fun c_3 => absurd c_3 (by decide)) (fun c_3 => ?_)
  refine px (fun _ => pm_aload_n (pc := 27) d_Mo_slot_27 rfl) ?_
  refine px (fun _ => pm_getf fl_Mo_7 (pc := 28) d_Mo_slot_28 H.1 rfl) ?_
  refine px (fun _ => pm_iload_n (pc := 31) d_Mo_slot_31 rfl) ?_
  refine px (fun _ => pm_iald (j := j) (pc := 32) d_Mo_slot_32 H.2.1 (rfl) (hj) (by decide)) ?_
  refine pxb (fun _ => pm_if_eq (pc := 33) (tgt := 53) d_Mo_slot_33 (by decide)) (fun c_4 => absurd c_4 (by rw [hkk]; decide)) (fun c_4 => ?_)
  refine px (fun _ => pm_aload_n (pc := 36) d_Mo_slot_36 rfl) ?_
  refine px (fun _ => pm_getf fl_Mo_7 (pc := 37) d_Mo_slot_37 H.1 rfl) ?_
  refine px (fun _ => pm_iload_n (pc := 40) d_Mo_slot_40 rfl) ?_
  refine px (fun _ => pm_iald (j := j) (pc := 41) d_Mo_slot_41 H.2.1 (rfl) (hj) (by decide)) ?_
  refine px (fun _ => pm_iconst (v := 3) (pc := 42) d_Mo_slot_42 rfl) ?_
  refine pxn (fun _ => pm_icmp_ne (pc := 43) (tgt := 57) d_Mo_slot_43 (by decide)) (fun c_5 => ?_) (fun c_5 => absurd c_5 (by rw [hkk]; decide))
  refine px (fun _ => pm_iconst (v := 0) (pc := 57) d_Mo_slot_57 rfl) ?_
  refine px (fun _ => pm_putfC (c' := pm_Ob 4 [.ref (96), .ref (97), .ref (98), .ref (99), .ref (100), .ref (101), .ref (102), .ref (103), .ref (104), .ref (105), .ref (106), .ref (107), .ref (108), .ref (109), .int (nI (mG T 0)), .int (nI (mG T 1)), .int (nI (mG T 2)), .int (nI (mG T 3)), .int (nI (mG T 4)), .int (0), .int (nI (mG T 6))]) fp_Mo_57 (pc := 58) d_Mo_slot_58 H.1 (Nat.le_of_ble_eq_true rfl) rfl rfl rfl) ?_
  have H_6 : mH (msG T 5 0) (h.set (95) (pm_Ob 4 [.ref (96), .ref (97), .ref (98), .ref (99), .ref (100), .ref (101), .ref (102), .ref (103), .ref (104), .ref (105), .ref (106), .ref (107), .ref (108), .ref (109), .int (nI (mG T 0)), .int (nI (mG T 1)), .int (nI (mG T 2)), .int (nI (mG T 3)), .int (nI (mG T 4)), .int (0), .int (nI (mG T 6))])) := H.G5 (v := 0)
  refine px (fun _ => pm_aload_n (pc := 61) d_Mo_slot_61 rfl) ?_
  refine px (fun _ => pm_getf fl_Mo_57 (pc := 62) d_Mo_slot_62 H_6.1 rfl) ?_
  refine pxb (fun _ => pm_if_eq (pc := 65) (tgt := 70) d_Mo_slot_65 (by decide)) (fun c_7 => ?_) (fun c_7 => absurd (rfl) c_7)
  refine px (fun _ => pm_iload_n (pc := 70) d_Mo_slot_70 rfl) ?_
  refine pxn (fun _ => pm_if_ne (pc := 71) (tgt := 81) d_Mo_slot_71 (by decide)) (fun c_8 => ?_) (fun c_8 => absurd c_8 (by decide))
  refine px (fun _ => pm_iload_n (pc := 81) d_Mo_slot_81 rfl) ?_
  refine px (fun _ => pm_iconst (v := 1) (pc := 82) d_Mo_slot_82 rfl) ?_
  refine pxn (fun _ => pm_icmp_ne (pc := 83) (tgt := 95) d_Mo_slot_83 (by decide)) (fun c_9 => ?_) (fun c_9 => absurd c_9 (by decide))
  refine px (fun _ => pm_iload_n (pc := 95) d_Mo_slot_95 rfl) ?_
  refine px (fun _ => pm_iconst (v := 2) (pc := 96) d_Mo_slot_96 rfl) ?_
  refine pxn (fun _ => pm_icmp_ne (pc := 97) (tgt := 109) d_Mo_slot_97 (by decide)) (fun c_10 => ?_) (fun c_10 => absurd c_10 (by decide))
  refine px (fun _ => pm_aload_n (pc := 109) d_Mo_slot_109 rfl) ?_
  refine px (fun _ => pm_getf fl_Mo_19 (pc := 110) d_Mo_slot_110 H_6.1 rfl) ?_
  refine px (fun _ => pm_iload_n (pc := 113) d_Mo_slot_113 rfl) ?_
  refine px (fun _ => pm_iald (j := j) (pc := 114) d_Mo_slot_114 H_6.2.2.2.2.1 (rfl) (hj) (by decide)) ?_
  exact pxr (pm_iret (pc := 115) d_Mo_slot_115 rfl rfl) ⟨rfl, H_6, (mFr.set _ _ (by omega))⟩
set_option maxHeartbeats 1000000 in
set_option maxRecDepth 20000 in
theorem m_slot_3_2 {l : Launch} {G : pm_G} {fi : Bool} {h : pm_H} {T : mS} {j : Nat} (hl : l.stackTraces = false) (H : mH T h) (hj : j < 20) (hkk : mA T 0 j = 2) : pm_Cn l G fi fi 0 0 M_Mo_slot [.ref (95), .int (nI j), .int (3)] h (m_P (some (.int (nI (mA T 3 j)))) (msG T 5 0) h) := by
  refine pm_Cn.of hl (by decide) (Nat.le_of_ble_eq_true rfl) ?_
  refine px (fun _ => pm_aload_n (pc := 0) d_Mo_slot_0 rfl) ?_
  refine px (fun _ => pm_aload_n (pc := 1) d_Mo_slot_1 rfl) ?_
  refine px (fun _ => pm_iload_n (pc := 2) d_Mo_slot_2 rfl) ?_
  refine px (fun _ => k_Mo_slot_3 (kc1 := 0) (ks1 := 0) (kc := 0) (ks := 0) (av := [.int (nI j)]) (st := [.ref (95)]) H.1 (m_ns_in hl H hj) rfl rfl (Nat.le_of_ble_eq_true rfl)) ?_
  refine pxn (fun _ => pm_if_ne (pc := 6) (tgt := 19) d_Mo_slot_6 (by decide)) (fun c_1 => absurd (by decide) c_1) (fun c_1 => ?_)
  refine px (fun _ => pm_aload_n (pc := 9) d_Mo_slot_9 rfl) ?_
  refine px (fun _ => pm_iload_n (pc := 10) d_Mo_slot_10 rfl) ?_
  refine px (fun _ => pm_iconst (v := 0) (pc := 11) d_Mo_slot_11 rfl) ?_
  refine px (fun _ => pm_iconst (v := 3) (pc := 12) d_Mo_slot_12 rfl) ?_
  refine px (fun _ => k_Mo_slot_13 (kc1 := 0) (ks1 := 0) (kc := 0) (ks := 0) (av := [.int (3), .int (0), .int (3)]) (st := [.ref (95)]) H.1 (m_out_in hl H (by decide) (by decide)) rfl rfl (Nat.le_of_ble_eq_true rfl)) ?_
  refine pxb (fun _ => pm_if_eq (pc := 16) (tgt := 23) d_Mo_slot_16 (by decide)) (fun c_2 => ?_) (fun c_2 => absurd (by decide) c_2)
  refine px (fun _ => pm_iload_n (pc := 23) d_Mo_slot_23 rfl) ?_
  refine pxb (fun _ => pm_if_le (pc := 24) (tgt := 57) d_Mo_slot_24 (by decide)) (fun c_3 => absurd c_3 (by decide)) (fun c_3 => ?_)
  refine px (fun _ => pm_aload_n (pc := 27) d_Mo_slot_27 rfl) ?_
  refine px (fun _ => pm_getf fl_Mo_7 (pc := 28) d_Mo_slot_28 H.1 rfl) ?_
  refine px (fun _ => pm_iload_n (pc := 31) d_Mo_slot_31 rfl) ?_
  refine px (fun _ => pm_iald (j := j) (pc := 32) d_Mo_slot_32 H.2.1 (rfl) (hj) (by decide)) ?_
  refine pxb (fun _ => pm_if_eq (pc := 33) (tgt := 53) d_Mo_slot_33 (by decide)) (fun c_4 => absurd c_4 (by rw [hkk]; decide)) (fun c_4 => ?_)
  refine px (fun _ => pm_aload_n (pc := 36) d_Mo_slot_36 rfl) ?_
  refine px (fun _ => pm_getf fl_Mo_7 (pc := 37) d_Mo_slot_37 H.1 rfl) ?_
  refine px (fun _ => pm_iload_n (pc := 40) d_Mo_slot_40 rfl) ?_
  refine px (fun _ => pm_iald (j := j) (pc := 41) d_Mo_slot_41 H.2.1 (rfl) (hj) (by decide)) ?_
  refine px (fun _ => pm_iconst (v := 3) (pc := 42) d_Mo_slot_42 rfl) ?_
  refine pxn (fun _ => pm_icmp_ne (pc := 43) (tgt := 57) d_Mo_slot_43 (by decide)) (fun c_5 => ?_) (fun c_5 => absurd c_5 (by rw [hkk]; decide))
  refine px (fun _ => pm_iconst (v := 0) (pc := 57) d_Mo_slot_57 rfl) ?_
  refine px (fun _ => pm_putfC (c' := pm_Ob 4 [.ref (96), .ref (97), .ref (98), .ref (99), .ref (100), .ref (101), .ref (102), .ref (103), .ref (104), .ref (105), .ref (106), .ref (107), .ref (108), .ref (109), .int (nI (mG T 0)), .int (nI (mG T 1)), .int (nI (mG T 2)), .int (nI (mG T 3)), .int (nI (mG T 4)), .int (0), .int (nI (mG T 6))]) fp_Mo_57 (pc := 58) d_Mo_slot_58 H.1 (Nat.le_of_ble_eq_true rfl) rfl rfl rfl) ?_
  have H_6 : mH (msG T 5 0) (h.set (95) (pm_Ob 4 [.ref (96), .ref (97), .ref (98), .ref (99), .ref (100), .ref (101), .ref (102), .ref (103), .ref (104), .ref (105), .ref (106), .ref (107), .ref (108), .ref (109), .int (nI (mG T 0)), .int (nI (mG T 1)), .int (nI (mG T 2)), .int (nI (mG T 3)), .int (nI (mG T 4)), .int (0), .int (nI (mG T 6))])) := H.G5 (v := 0)
  refine px (fun _ => pm_aload_n (pc := 61) d_Mo_slot_61 rfl) ?_
  refine px (fun _ => pm_getf fl_Mo_57 (pc := 62) d_Mo_slot_62 H_6.1 rfl) ?_
  refine pxb (fun _ => pm_if_eq (pc := 65) (tgt := 70) d_Mo_slot_65 (by decide)) (fun c_7 => ?_) (fun c_7 => absurd (rfl) c_7)
  refine px (fun _ => pm_iload_n (pc := 70) d_Mo_slot_70 rfl) ?_
  refine pxn (fun _ => pm_if_ne (pc := 71) (tgt := 81) d_Mo_slot_71 (by decide)) (fun c_8 => ?_) (fun c_8 => absurd c_8 (by decide))
  refine px (fun _ => pm_iload_n (pc := 81) d_Mo_slot_81 rfl) ?_
  refine px (fun _ => pm_iconst (v := 1) (pc := 82) d_Mo_slot_82 rfl) ?_
  refine pxn (fun _ => pm_icmp_ne (pc := 83) (tgt := 95) d_Mo_slot_83 (by decide)) (fun c_9 => ?_) (fun c_9 => absurd c_9 (by decide))
  refine px (fun _ => pm_iload_n (pc := 95) d_Mo_slot_95 rfl) ?_
  refine px (fun _ => pm_iconst (v := 2) (pc := 96) d_Mo_slot_96 rfl) ?_
  refine pxn (fun _ => pm_icmp_ne (pc := 97) (tgt := 109) d_Mo_slot_97 (by decide)) (fun c_10 => ?_) (fun c_10 => absurd c_10 (by decide))
  refine px (fun _ => pm_aload_n (pc := 109) d_Mo_slot_109 rfl) ?_
  refine px (fun _ => pm_getf fl_Mo_19 (pc := 110) d_Mo_slot_110 H_6.1 rfl) ?_
  refine px (fun _ => pm_iload_n (pc := 113) d_Mo_slot_113 rfl) ?_
  refine px (fun _ => pm_iald (j := j) (pc := 114) d_Mo_slot_114 H_6.2.2.2.2.1 (rfl) (hj) (by decide)) ?_
  exact pxr (pm_iret (pc := 115) d_Mo_slot_115 rfl rfl) ⟨rfl, H_6, (mFr.set _ _ (by omega))⟩
set_option maxHeartbeats 1000000 in
set_option maxRecDepth 20000 in
theorem m_slot_3_3 {l : Launch} {G : pm_G} {fi : Bool} {h : pm_H} {T : mS} {j : Nat} (hl : l.stackTraces = false) (H : mH T h) (hj : j < 20) (hkk : mA T 0 j = 3) (hr : mG T 6 = 1) : pm_Cn l G fi fi 0 0 M_Mo_slot [.ref (95), .int (nI j), .int (3)] h (m_P (some (.int (nI (mA T 3 j)))) (msG T 5 0) h) := by
  refine pm_Cn.of hl (by decide) (Nat.le_of_ble_eq_true rfl) ?_
  refine px (fun _ => pm_aload_n (pc := 0) d_Mo_slot_0 rfl) ?_
  refine px (fun _ => pm_aload_n (pc := 1) d_Mo_slot_1 rfl) ?_
  refine px (fun _ => pm_iload_n (pc := 2) d_Mo_slot_2 rfl) ?_
  refine px (fun _ => k_Mo_slot_3 (kc1 := 0) (ks1 := 0) (kc := 0) (ks := 0) (av := [.int (nI j)]) (st := [.ref (95)]) H.1 (m_ns_in hl H hj) rfl rfl (Nat.le_of_ble_eq_true rfl)) ?_
  refine pxn (fun _ => pm_if_ne (pc := 6) (tgt := 19) d_Mo_slot_6 (by decide)) (fun c_1 => absurd (by decide) c_1) (fun c_1 => ?_)
  refine px (fun _ => pm_aload_n (pc := 9) d_Mo_slot_9 rfl) ?_
  refine px (fun _ => pm_iload_n (pc := 10) d_Mo_slot_10 rfl) ?_
  refine px (fun _ => pm_iconst (v := 0) (pc := 11) d_Mo_slot_11 rfl) ?_
  refine px (fun _ => pm_iconst (v := 3) (pc := 12) d_Mo_slot_12 rfl) ?_
  refine px (fun _ => k_Mo_slot_13 (kc1 := 0) (ks1 := 0) (kc := 0) (ks := 0) (av := [.int (3), .int (0), .int (3)]) (st := [.ref (95)]) H.1 (m_out_in hl H (by decide) (by decide)) rfl rfl (Nat.le_of_ble_eq_true rfl)) ?_
  refine pxb (fun _ => pm_if_eq (pc := 16) (tgt := 23) d_Mo_slot_16 (by decide)) (fun c_2 => ?_) (fun c_2 => absurd (by decide) c_2)
  refine px (fun _ => pm_iload_n (pc := 23) d_Mo_slot_23 rfl) ?_
  refine pxb (fun _ => pm_if_le (pc := 24) (tgt := 57) d_Mo_slot_24 (by decide)) (fun c_3 => absurd c_3 (by decide)) (fun c_3 => ?_)
  refine px (fun _ => pm_aload_n (pc := 27) d_Mo_slot_27 rfl) ?_
  refine px (fun _ => pm_getf fl_Mo_7 (pc := 28) d_Mo_slot_28 H.1 rfl) ?_
  refine px (fun _ => pm_iload_n (pc := 31) d_Mo_slot_31 rfl) ?_
  refine px (fun _ => pm_iald (j := j) (pc := 32) d_Mo_slot_32 H.2.1 (rfl) (hj) (by decide)) ?_
  refine pxb (fun _ => pm_if_eq (pc := 33) (tgt := 53) d_Mo_slot_33 (by decide)) (fun c_4 => absurd c_4 (by rw [hkk]; decide)) (fun c_4 => ?_)
  refine px (fun _ => pm_aload_n (pc := 36) d_Mo_slot_36 rfl) ?_
  refine px (fun _ => pm_getf fl_Mo_7 (pc := 37) d_Mo_slot_37 H.1 rfl) ?_
  refine px (fun _ => pm_iload_n (pc := 40) d_Mo_slot_40 rfl) ?_
  refine px (fun _ => pm_iald (j := j) (pc := 41) d_Mo_slot_41 H.2.1 (rfl) (hj) (by decide)) ?_
  refine px (fun _ => pm_iconst (v := 3) (pc := 42) d_Mo_slot_42 rfl) ?_
  refine pxn (fun _ => pm_icmp_ne (pc := 43) (tgt := 57) d_Mo_slot_43 (by decide)) (fun c_5 => absurd (by rw [hkk]; rfl) c_5) (fun c_5 => ?_)
  refine px (fun _ => pm_aload_n (pc := 46) d_Mo_slot_46 rfl) ?_
  refine px (fun _ => pm_getf fl_Mo_53 (pc := 47) d_Mo_slot_47 H.1 rfl) ?_
  refine pxn (fun _ => pm_if_ne (pc := 50) (tgt := 57) d_Mo_slot_50 (by decide)) (fun c_6 => ?_) (fun c_6 => absurd c_6 (by rw [hr]; decide))
  refine px (fun _ => pm_iconst (v := 0) (pc := 57) d_Mo_slot_57 rfl) ?_
  refine px (fun _ => pm_putfC (c' := pm_Ob 4 [.ref (96), .ref (97), .ref (98), .ref (99), .ref (100), .ref (101), .ref (102), .ref (103), .ref (104), .ref (105), .ref (106), .ref (107), .ref (108), .ref (109), .int (nI (mG T 0)), .int (nI (mG T 1)), .int (nI (mG T 2)), .int (nI (mG T 3)), .int (nI (mG T 4)), .int (0), .int (nI (mG T 6))]) fp_Mo_57 (pc := 58) d_Mo_slot_58 H.1 (Nat.le_of_ble_eq_true rfl) rfl rfl rfl) ?_
  have H_7 : mH (msG T 5 0) (h.set (95) (pm_Ob 4 [.ref (96), .ref (97), .ref (98), .ref (99), .ref (100), .ref (101), .ref (102), .ref (103), .ref (104), .ref (105), .ref (106), .ref (107), .ref (108), .ref (109), .int (nI (mG T 0)), .int (nI (mG T 1)), .int (nI (mG T 2)), .int (nI (mG T 3)), .int (nI (mG T 4)), .int (0), .int (nI (mG T 6))])) := H.G5 (v := 0)
  refine px (fun _ => pm_aload_n (pc := 61) d_Mo_slot_61 rfl) ?_
  refine px (fun _ => pm_getf fl_Mo_57 (pc := 62) d_Mo_slot_62 H_7.1 rfl) ?_
  refine pxb (fun _ => pm_if_eq (pc := 65) (tgt := 70) d_Mo_slot_65 (by decide)) (fun c_8 => ?_) (fun c_8 => absurd (rfl) c_8)
  refine px (fun _ => pm_iload_n (pc := 70) d_Mo_slot_70 rfl) ?_
  refine pxn (fun _ => pm_if_ne (pc := 71) (tgt := 81) d_Mo_slot_71 (by decide)) (fun c_9 => ?_) (fun c_9 => absurd c_9 (by decide))
  refine px (fun _ => pm_iload_n (pc := 81) d_Mo_slot_81 rfl) ?_
  refine px (fun _ => pm_iconst (v := 1) (pc := 82) d_Mo_slot_82 rfl) ?_
  refine pxn (fun _ => pm_icmp_ne (pc := 83) (tgt := 95) d_Mo_slot_83 (by decide)) (fun c_10 => ?_) (fun c_10 => absurd c_10 (by decide))
  refine px (fun _ => pm_iload_n (pc := 95) d_Mo_slot_95 rfl) ?_
  refine px (fun _ => pm_iconst (v := 2) (pc := 96) d_Mo_slot_96 rfl) ?_
  refine pxn (fun _ => pm_icmp_ne (pc := 97) (tgt := 109) d_Mo_slot_97 (by decide)) (fun c_11 => ?_) (fun c_11 => absurd c_11 (by decide))
  refine px (fun _ => pm_aload_n (pc := 109) d_Mo_slot_109 rfl) ?_
  refine px (fun _ => pm_getf fl_Mo_19 (pc := 110) d_Mo_slot_110 H_7.1 rfl) ?_
  refine px (fun _ => pm_iload_n (pc := 113) d_Mo_slot_113 rfl) ?_
  refine px (fun _ => pm_iald (j := j) (pc := 114) d_Mo_slot_114 H_7.2.2.2.2.1 (rfl) (hj) (by decide)) ?_
  exact pxr (pm_iret (pc := 115) d_Mo_slot_115 rfl rfl) ⟨rfl, H_7, (mFr.set _ _ (by omega))⟩
set_option maxHeartbeats 1000000 in
set_option maxRecDepth 20000 in
theorem m_slot_m3_0 {l : Launch} {G : pm_G} {fi : Bool} {h : pm_H} {T : mS} {j : Nat} (hl : l.stackTraces = false) (H : mH T h) (hj : j < 20) (hkk : mA T 0 j = 0) : pm_Cn l G fi fi 0 0 M_Mo_slot [.ref (95), .int (nI j), .int (3)] h (m_P (some (.int 0)) (msG T 5 2) h) := by
  refine pm_Cn.of hl (by decide) (Nat.le_of_ble_eq_true rfl) ?_
  refine px (fun _ => pm_aload_n (pc := 0) d_Mo_slot_0 rfl) ?_
  refine px (fun _ => pm_aload_n (pc := 1) d_Mo_slot_1 rfl) ?_
  refine px (fun _ => pm_iload_n (pc := 2) d_Mo_slot_2 rfl) ?_
  refine px (fun _ => k_Mo_slot_3 (kc1 := 0) (ks1 := 0) (kc := 0) (ks := 0) (av := [.int (nI j)]) (st := [.ref (95)]) H.1 (m_ns_in hl H hj) rfl rfl (Nat.le_of_ble_eq_true rfl)) ?_
  refine pxn (fun _ => pm_if_ne (pc := 6) (tgt := 19) d_Mo_slot_6 (by decide)) (fun c_1 => absurd (by decide) c_1) (fun c_1 => ?_)
  refine px (fun _ => pm_aload_n (pc := 9) d_Mo_slot_9 rfl) ?_
  refine px (fun _ => pm_iload_n (pc := 10) d_Mo_slot_10 rfl) ?_
  refine px (fun _ => pm_iconst (v := 0) (pc := 11) d_Mo_slot_11 rfl) ?_
  refine px (fun _ => pm_iconst (v := 3) (pc := 12) d_Mo_slot_12 rfl) ?_
  refine px (fun _ => k_Mo_slot_13 (kc1 := 0) (ks1 := 0) (kc := 0) (ks := 0) (av := [.int (3), .int (0), .int (3)]) (st := [.ref (95)]) H.1 (m_out_in hl H (by decide) (by decide)) rfl rfl (Nat.le_of_ble_eq_true rfl)) ?_
  refine pxb (fun _ => pm_if_eq (pc := 16) (tgt := 23) d_Mo_slot_16 (by decide)) (fun c_2 => ?_) (fun c_2 => absurd (by decide) c_2)
  refine px (fun _ => pm_iload_n (pc := 23) d_Mo_slot_23 rfl) ?_
  refine pxb (fun _ => pm_if_le (pc := 24) (tgt := 57) d_Mo_slot_24 (by decide)) (fun c_3 => absurd c_3 (by decide)) (fun c_3 => ?_)
  refine px (fun _ => pm_aload_n (pc := 27) d_Mo_slot_27 rfl) ?_
  refine px (fun _ => pm_getf fl_Mo_7 (pc := 28) d_Mo_slot_28 H.1 rfl) ?_
  refine px (fun _ => pm_iload_n (pc := 31) d_Mo_slot_31 rfl) ?_
  refine px (fun _ => pm_iald (j := j) (pc := 32) d_Mo_slot_32 H.2.1 (rfl) (hj) (by decide)) ?_
  refine pxb (fun _ => pm_if_eq (pc := 33) (tgt := 53) d_Mo_slot_33 (by decide)) (fun c_4 => ?_) (fun c_4 => absurd (by rw [hkk]; rfl) c_4)
  refine px (fun _ => pm_iconst (v := 2) (pc := 53) d_Mo_slot_53 rfl) ?_
  refine px (fun _ => pm_goto (tgt := 58) (pc := 54) d_Mo_slot_54 (by decide)) ?_
  refine px (fun _ => pm_putfC (c' := pm_Ob 4 [.ref (96), .ref (97), .ref (98), .ref (99), .ref (100), .ref (101), .ref (102), .ref (103), .ref (104), .ref (105), .ref (106), .ref (107), .ref (108), .ref (109), .int (nI (mG T 0)), .int (nI (mG T 1)), .int (nI (mG T 2)), .int (nI (mG T 3)), .int (nI (mG T 4)), .int (2), .int (nI (mG T 6))]) fp_Mo_57 (pc := 58) d_Mo_slot_58 H.1 (Nat.le_of_ble_eq_true rfl) rfl rfl rfl) ?_
  have H_5 : mH (msG T 5 2) (h.set (95) (pm_Ob 4 [.ref (96), .ref (97), .ref (98), .ref (99), .ref (100), .ref (101), .ref (102), .ref (103), .ref (104), .ref (105), .ref (106), .ref (107), .ref (108), .ref (109), .int (nI (mG T 0)), .int (nI (mG T 1)), .int (nI (mG T 2)), .int (nI (mG T 3)), .int (nI (mG T 4)), .int (2), .int (nI (mG T 6))])) := H.G5 (v := 2)
  refine px (fun _ => pm_aload_n (pc := 61) d_Mo_slot_61 rfl) ?_
  refine px (fun _ => pm_getf fl_Mo_57 (pc := 62) d_Mo_slot_62 H_5.1 rfl) ?_
  refine pxb (fun _ => pm_if_eq (pc := 65) (tgt := 70) d_Mo_slot_65 (by decide)) (fun c_6 => absurd c_6 (fun q => absurd (show nI 2 = 0 from q) (by decide))) (fun c_6 => ?_)
  refine px (fun _ => pm_iconst (v := 0) (pc := 68) d_Mo_slot_68 rfl) ?_
  exact pxr (pm_iret (pc := 69) d_Mo_slot_69 rfl rfl) ⟨rfl, H_5, (mFr.set _ _ (by omega))⟩
set_option maxHeartbeats 1000000 in
set_option maxRecDepth 20000 in
theorem m_slot_m3_3 {l : Launch} {G : pm_G} {fi : Bool} {h : pm_H} {T : mS} {j : Nat} (hl : l.stackTraces = false) (H : mH T h) (hj : j < 20) (hkk : mA T 0 j = 3) (hr : mG T 6 = 0) : pm_Cn l G fi fi 0 0 M_Mo_slot [.ref (95), .int (nI j), .int (3)] h (m_P (some (.int 0)) (msG T 5 2) h) := by
  refine pm_Cn.of hl (by decide) (Nat.le_of_ble_eq_true rfl) ?_
  refine px (fun _ => pm_aload_n (pc := 0) d_Mo_slot_0 rfl) ?_
  refine px (fun _ => pm_aload_n (pc := 1) d_Mo_slot_1 rfl) ?_
  refine px (fun _ => pm_iload_n (pc := 2) d_Mo_slot_2 rfl) ?_
  refine px (fun _ => k_Mo_slot_3 (kc1 := 0) (ks1 := 0) (kc := 0) (ks := 0) (av := [.int (nI j)]) (st := [.ref (95)]) H.1 (m_ns_in hl H hj) rfl rfl (Nat.le_of_ble_eq_true rfl)) ?_
  refine pxn (fun _ => pm_if_ne (pc := 6) (tgt := 19) d_Mo_slot_6 (by decide)) (fun c_1 => absurd (by decide) c_1) (fun c_1 => ?_)
  refine px (fun _ => pm_aload_n (pc := 9) d_Mo_slot_9 rfl) ?_
  refine px (fun _ => pm_iload_n (pc := 10) d_Mo_slot_10 rfl) ?_
  refine px (fun _ => pm_iconst (v := 0) (pc := 11) d_Mo_slot_11 rfl) ?_
  refine px (fun _ => pm_iconst (v := 3) (pc := 12) d_Mo_slot_12 rfl) ?_
  refine px (fun _ => k_Mo_slot_13 (kc1 := 0) (ks1 := 0) (kc := 0) (ks := 0) (av := [.int (3), .int (0), .int (3)]) (st := [.ref (95)]) H.1 (m_out_in hl H (by decide) (by decide)) rfl rfl (Nat.le_of_ble_eq_true rfl)) ?_
  refine pxb (fun _ => pm_if_eq (pc := 16) (tgt := 23) d_Mo_slot_16 (by decide)) (fun c_2 => ?_) (fun c_2 => absurd (by decide) c_2)
  refine px (fun _ => pm_iload_n (pc := 23) d_Mo_slot_23 rfl) ?_
  refine pxb (fun _ => pm_if_le (pc := 24) (tgt := 57) d_Mo_slot_24 (by decide)) (fun c_3 => absurd c_3 (by decide)) (fun c_3 => ?_)
  refine px (fun _ => pm_aload_n (pc := 27) d_Mo_slot_27 rfl) ?_
  refine px (fun _ => pm_getf fl_Mo_7 (pc := 28) d_Mo_slot_28 H.1 rfl) ?_
  refine px (fun _ => pm_iload_n (pc := 31) d_Mo_slot_31 rfl) ?_
  refine px (fun _ => pm_iald (j := j) (pc := 32) d_Mo_slot_32 H.2.1 (rfl) (hj) (by decide)) ?_
  refine pxb (fun _ => pm_if_eq (pc := 33) (tgt := 53) d_Mo_slot_33 (by decide)) (fun c_4 => absurd c_4 (by rw [hkk]; decide)) (fun c_4 => ?_)
  refine px (fun _ => pm_aload_n (pc := 36) d_Mo_slot_36 rfl) ?_
  refine px (fun _ => pm_getf fl_Mo_7 (pc := 37) d_Mo_slot_37 H.1 rfl) ?_
  refine px (fun _ => pm_iload_n (pc := 40) d_Mo_slot_40 rfl) ?_
  refine px (fun _ => pm_iald (j := j) (pc := 41) d_Mo_slot_41 H.2.1 (rfl) (hj) (by decide)) ?_
  refine px (fun _ => pm_iconst (v := 3) (pc := 42) d_Mo_slot_42 rfl) ?_
  refine pxn (fun _ => pm_icmp_ne (pc := 43) (tgt := 57) d_Mo_slot_43 (by decide)) (fun c_5 => absurd (by rw [hkk]; rfl) c_5) (fun c_5 => ?_)
  refine px (fun _ => pm_aload_n (pc := 46) d_Mo_slot_46 rfl) ?_
  refine px (fun _ => pm_getf fl_Mo_53 (pc := 47) d_Mo_slot_47 H.1 rfl) ?_
  refine pxn (fun _ => pm_if_ne (pc := 50) (tgt := 57) d_Mo_slot_50 (by decide)) (fun c_6 => absurd (by rw [hr]; rfl) c_6) (fun c_6 => ?_)
  refine px (fun _ => pm_iconst (v := 2) (pc := 53) d_Mo_slot_53 rfl) ?_
  refine px (fun _ => pm_goto (tgt := 58) (pc := 54) d_Mo_slot_54 (by decide)) ?_
  refine px (fun _ => pm_putfC (c' := pm_Ob 4 [.ref (96), .ref (97), .ref (98), .ref (99), .ref (100), .ref (101), .ref (102), .ref (103), .ref (104), .ref (105), .ref (106), .ref (107), .ref (108), .ref (109), .int (nI (mG T 0)), .int (nI (mG T 1)), .int (nI (mG T 2)), .int (nI (mG T 3)), .int (nI (mG T 4)), .int (2), .int (nI (mG T 6))]) fp_Mo_57 (pc := 58) d_Mo_slot_58 H.1 (Nat.le_of_ble_eq_true rfl) rfl rfl rfl) ?_
  have H_7 : mH (msG T 5 2) (h.set (95) (pm_Ob 4 [.ref (96), .ref (97), .ref (98), .ref (99), .ref (100), .ref (101), .ref (102), .ref (103), .ref (104), .ref (105), .ref (106), .ref (107), .ref (108), .ref (109), .int (nI (mG T 0)), .int (nI (mG T 1)), .int (nI (mG T 2)), .int (nI (mG T 3)), .int (nI (mG T 4)), .int (2), .int (nI (mG T 6))])) := H.G5 (v := 2)
  refine px (fun _ => pm_aload_n (pc := 61) d_Mo_slot_61 rfl) ?_
  refine px (fun _ => pm_getf fl_Mo_57 (pc := 62) d_Mo_slot_62 H_7.1 rfl) ?_
  refine pxb (fun _ => pm_if_eq (pc := 65) (tgt := 70) d_Mo_slot_65 (by decide)) (fun c_8 => absurd c_8 (fun q => absurd (show nI 2 = 0 from q) (by decide))) (fun c_8 => ?_)
  refine px (fun _ => pm_iconst (v := 0) (pc := 68) d_Mo_slot_68 rfl) ?_
  exact pxr (pm_iret (pc := 69) d_Mo_slot_69 rfl rfl) ⟨rfl, H_7, (mFr.set _ _ (by omega))⟩
def m_k2 (T : mS) (n : Nat) : Nat := if nI (mA T 10 n) = 2 then 1 else 0
set_option maxHeartbeats 1000000 in
set_option maxRecDepth 20000 in
theorem lp_mcnt {l : Launch} {G : pm_G} {fi : Bool} {Post : pm_O × pm_H → Prop} {w9 : Int32} {T : mS} {h : pm_H} (H : mH T h) (hn : mG T 0 ≤ 14) (K : pm_Px l G fi fi 0 0 M_Mo_count 36 [(2, .int (nI (g_cnt (m_k2 T) 0 (mG T 0)))), (0, .ref 95), (1, .int w9)] [] h Post) : ∀ (d i c : Nat), i + d = mG T 0 → c + g_cnt (m_k2 T) i d = g_cnt (m_k2 T) 0 (mG T 0) → pm_Px l G fi fi 0 0 M_Mo_count 9 [(3, .int (nI i)), (2, .int (nI c)), (0, .ref (95)), (1, .int (w9))] [] h Post := by
  intro d
  induction d with
  | zero =>
    intro i c hd hc
    obtain rfl : i = mG T 0 := by omega
    simp only [g_cnt] at hc
    obtain rfl : c = g_cnt (m_k2 T) 0 (mG T 0) := by omega
    refine px (fun _ => pm_iload_n (pc := 9) d_Mo_count_9 rfl) ?_
    refine px (fun _ => pm_aload_n (pc := 10) d_Mo_count_10 rfl) ?_
    refine px (fun _ => pm_getf fl_Mo_82 (pc := 11) d_Mo_count_11 H.1 rfl) ?_
    refine pxb (fun _ => pm_icmp_ge (pc := 14) (tgt := 36) d_Mo_count_14 (by decide)) (fun c_1 => ?_) (fun c_1 => absurd ((nI_leI (a := mG T 0) (b := mG T 0) (by omega) (by omega)).mpr (by omega)) c_1)
    refine pxd [1, 2, 3] rfl ?_
    exact K
  | succ d ih =>
    intro i c hd hc
    simp only [g_cnt] at hc
    refine px (fun _ => pm_iload_n (pc := 9) d_Mo_count_9 rfl) ?_
    refine px (fun _ => pm_aload_n (pc := 10) d_Mo_count_10 rfl) ?_
    refine px (fun _ => pm_getf fl_Mo_82 (pc := 11) d_Mo_count_11 H.1 rfl) ?_
    refine pxb (fun _ => pm_icmp_ge (pc := 14) (tgt := 36) d_Mo_count_14 (by decide)) (fun c_1 => absurd c_1 (fun q => absurd ((nI_leI (a := mG T 0) (b := i) (by omega) (by omega)).mp q) (by omega))) (fun c_1 => ?_)
    refine px (fun _ => pm_aload_n (pc := 17) d_Mo_count_17 rfl) ?_
    refine px (fun _ => pm_getf fl_Mo_41 (pc := 18) d_Mo_count_18 H.1 rfl) ?_
    refine px (fun _ => pm_iload_n (pc := 21) d_Mo_count_21 rfl) ?_
    refine px (fun _ => pm_iald (j := i) (pc := 22) d_Mo_count_22 H.2.2.2.2.2.2.2.2.2.2.2.1 (rfl) ((by omega)) (by decide)) ?_
    refine px (fun _ => pm_iconst (v := 2) (pc := 23) d_Mo_count_23 rfl) ?_
    refine pxn (fun _ => pm_icmp_ne (pc := 24) (tgt := 30) d_Mo_count_24 (by decide)) (fun c_2 => ?_) (fun c_2 => ?_)
    · refine px (fun _ => pm_iinc (x := nI i) (v := nI (i + 1)) (lv' := [(3, .int (nI (i + 1))), (2, .int (nI c)), (0, .ref (95)), (1, .int (w9))]) (pc := 30) d_Mo_count_30 rfl (nI_1 _) (by decide) rfl) ?_
      refine px (fun _ => pm_goto (tgt := 9) (pc := 33) d_Mo_count_33 (by decide)) ?_
      refine pxd [0, 1, 2, 3] rfl ?_
      have e9 : m_k2 T i = 0 := if_neg (by assumption)
      rw [e9] at hc
      simp at hc
      exact ih (i + 1) c (by omega) (by omega)
    · refine px (fun _ => pm_iinc (x := nI c) (v := nI (c + 1)) (lv' := [(2, .int (nI (c + 1))), (3, .int (nI i)), (0, .ref (95)), (1, .int (w9))]) (pc := 27) d_Mo_count_27 rfl (nI_1 _) (by decide) rfl) ?_
      refine px (fun _ => pm_iinc (x := nI i) (v := nI (i + 1)) (lv' := [(3, .int (nI (i + 1))), (2, .int (nI (c + 1))), (0, .ref (95)), (1, .int (w9))]) (pc := 30) d_Mo_count_30 rfl (nI_1 _) (by decide) rfl) ?_
      refine px (fun _ => pm_goto (tgt := 9) (pc := 33) d_Mo_count_33 (by decide)) ?_
      refine pxd [0, 1, 2, 3] rfl ?_
      have e9 : m_k2 T i = 1 := if_pos (by assumption)
      rw [e9] at hc
      simp at hc
      exact ih (i + 1) (c + 1) (by omega) (by omega)
set_option maxHeartbeats 1000000 in
set_option maxRecDepth 20000 in
theorem m_count_0 {l : Launch} {G : pm_G} {fi : Bool} {h : pm_H} {T : mS}  (hl : l.stackTraces = false) (H : mH T h) (hn : mG T 0 ≤ 14)  : pm_Cn l G fi fi 0 0 M_Mo_count [.ref (95), .int (0)] h (m_P (some (.int (nI (mG T 0)))) (msG T 5 0) h) := by
  refine pm_Cn.of hl (by decide) (Nat.le_of_ble_eq_true rfl) ?_
  refine px (fun _ => pm_aload_n (pc := 0) d_Mo_count_0 rfl) ?_
  refine px (fun _ => pm_iconst (v := 0) (pc := 1) d_Mo_count_1 rfl) ?_
  refine px (fun _ => pm_putfC (c' := pm_Ob 4 [.ref (96), .ref (97), .ref (98), .ref (99), .ref (100), .ref (101), .ref (102), .ref (103), .ref (104), .ref (105), .ref (106), .ref (107), .ref (108), .ref (109), .int (nI (mG T 0)), .int (nI (mG T 1)), .int (nI (mG T 2)), .int (nI (mG T 3)), .int (nI (mG T 4)), .int (0), .int (nI (mG T 6))]) fp_Mo_57 (pc := 2) d_Mo_count_2 H.1 (Nat.le_of_ble_eq_true rfl) rfl rfl rfl) ?_
  have H_1 : mH (msG T 5 0) (h.set (95) (pm_Ob 4 [.ref (96), .ref (97), .ref (98), .ref (99), .ref (100), .ref (101), .ref (102), .ref (103), .ref (104), .ref (105), .ref (106), .ref (107), .ref (108), .ref (109), .int (nI (mG T 0)), .int (nI (mG T 1)), .int (nI (mG T 2)), .int (nI (mG T 3)), .int (nI (mG T 4)), .int (0), .int (nI (mG T 6))])) := H.G5 (v := 0)
  refine px (fun _ => pm_iconst (v := 0) (pc := 5) d_Mo_count_5 rfl) ?_
  refine px (fun _ => pm_istore_n (lv' := [(2, .int (0)), (0, .ref (95)), (1, .int (0))]) (pc := 6) d_Mo_count_6 (by decide) rfl) ?_
  refine px (fun _ => pm_iconst (v := 0) (pc := 7) d_Mo_count_7 rfl) ?_
  refine px (fun _ => pm_istore_n (lv' := [(3, .int (0)), (2, .int (0)), (0, .ref (95)), (1, .int (0))]) (pc := 8) d_Mo_count_8 (by decide) rfl) ?_
  refine pxd [0, 1, 2, 3] rfl ?_
  refine lp_mcnt (T := msG T 5 0) (w9 := 0) H_1 hn ?_ (mG T 0) 0 0 (Nat.zero_add _) (Nat.zero_add _)
  refine px (fun _ => pm_iload_n (pc := 36) d_Mo_count_36 rfl) ?_
  refine px (fun _ => pm_tabIn (off := 39) (tgt := 76) (pc := 37) d_Mo_count_37 (by decide) (by decide) rfl (by decide)) ?_
  refine px (fun _ => pm_aload_n (pc := 76) d_Mo_count_76 rfl) ?_
  refine px (fun _ => pm_getf fl_Mo_82 (pc := 77) d_Mo_count_77 H_1.1 rfl) ?_
  exact pxr (pm_iret (pc := 80) d_Mo_count_80 rfl rfl) ⟨rfl, H_1, (mFr.set _ _ (by omega))⟩
set_option maxHeartbeats 1000000 in
set_option maxRecDepth 20000 in
theorem m_count_1 {l : Launch} {G : pm_G} {fi : Bool} {h : pm_H} {T : mS}  (hl : l.stackTraces = false) (H : mH T h) (hn : mG T 0 ≤ 14) (hr : mG T 6 ≤ 1) : pm_Cn l G fi fi 0 0 M_Mo_count [.ref (95), .int (1)] h (m_P (some (.int (nI (mG T 6)))) (msG T 5 0) h) := by
  refine pm_Cn.of hl (by decide) (Nat.le_of_ble_eq_true rfl) ?_
  refine px (fun _ => pm_aload_n (pc := 0) d_Mo_count_0 rfl) ?_
  refine px (fun _ => pm_iconst (v := 0) (pc := 1) d_Mo_count_1 rfl) ?_
  refine px (fun _ => pm_putfC (c' := pm_Ob 4 [.ref (96), .ref (97), .ref (98), .ref (99), .ref (100), .ref (101), .ref (102), .ref (103), .ref (104), .ref (105), .ref (106), .ref (107), .ref (108), .ref (109), .int (nI (mG T 0)), .int (nI (mG T 1)), .int (nI (mG T 2)), .int (nI (mG T 3)), .int (nI (mG T 4)), .int (0), .int (nI (mG T 6))]) fp_Mo_57 (pc := 2) d_Mo_count_2 H.1 (Nat.le_of_ble_eq_true rfl) rfl rfl rfl) ?_
  have H_1 : mH (msG T 5 0) (h.set (95) (pm_Ob 4 [.ref (96), .ref (97), .ref (98), .ref (99), .ref (100), .ref (101), .ref (102), .ref (103), .ref (104), .ref (105), .ref (106), .ref (107), .ref (108), .ref (109), .int (nI (mG T 0)), .int (nI (mG T 1)), .int (nI (mG T 2)), .int (nI (mG T 3)), .int (nI (mG T 4)), .int (0), .int (nI (mG T 6))])) := H.G5 (v := 0)
  refine px (fun _ => pm_iconst (v := 0) (pc := 5) d_Mo_count_5 rfl) ?_
  refine px (fun _ => pm_istore_n (lv' := [(2, .int (0)), (0, .ref (95)), (1, .int (1))]) (pc := 6) d_Mo_count_6 (by decide) rfl) ?_
  refine px (fun _ => pm_iconst (v := 0) (pc := 7) d_Mo_count_7 rfl) ?_
  refine px (fun _ => pm_istore_n (lv' := [(3, .int (0)), (2, .int (0)), (0, .ref (95)), (1, .int (1))]) (pc := 8) d_Mo_count_8 (by decide) rfl) ?_
  refine pxd [0, 1, 2, 3] rfl ?_
  refine lp_mcnt (T := msG T 5 0) (w9 := 1) H_1 hn ?_ (mG T 0) 0 0 (Nat.zero_add _) (Nat.zero_add _)
  refine px (fun _ => pm_iload_n (pc := 36) d_Mo_count_36 rfl) ?_
  refine px (fun _ => pm_tabIn (off := 44) (tgt := 81) (pc := 37) d_Mo_count_37 (by decide) (by decide) rfl (by decide)) ?_
  refine px (fun _ => pm_aload_n (pc := 81) d_Mo_count_81 rfl) ?_
  refine px (fun _ => pm_getf fl_Mo_53 (pc := 82) d_Mo_count_82 H_1.1 rfl) ?_
  refine pxb (fun _ => pm_if_eq (pc := 85) (tgt := 92) d_Mo_count_85 (by decide)) (fun c_2 => ?_) (fun c_2 => ?_)
  · refine px (fun _ => pm_iconst (v := 0) (pc := 92) d_Mo_count_92 rfl) ?_
    exact pxr (pm_iret (pc := 93) d_Mo_count_93 rfl rfl) ⟨by rw [show mG T 6 = 0 from g_b00 hr (show nI (mG T 6) = 0 by assumption)]; rfl, H_1, (mFr.set _ _ (by omega))⟩
  · refine px (fun _ => pm_iconst (v := 1) (pc := 88) d_Mo_count_88 rfl) ?_
    refine px (fun _ => pm_goto (tgt := 93) (pc := 89) d_Mo_count_89 (by decide)) ?_
    exact pxr (pm_iret (pc := 93) d_Mo_count_93 rfl rfl) ⟨by rw [show mG T 6 = 1 from g_b01 hr (show ¬ nI (mG T 6) = 0 by assumption)]; rfl, H_1, (mFr.set _ _ (by omega))⟩
set_option maxHeartbeats 1000000 in
set_option maxRecDepth 20000 in
theorem m_count_2 {l : Launch} {G : pm_G} {fi : Bool} {h : pm_H} {T : mS}  (hl : l.stackTraces = false) (H : mH T h) (hn : mG T 0 ≤ 14)  : pm_Cn l G fi fi 0 0 M_Mo_count [.ref (95), .int (2)] h (m_P (some (.int (nI (mG T 1)))) (msG T 5 0) h) := by
  refine pm_Cn.of hl (by decide) (Nat.le_of_ble_eq_true rfl) ?_
  refine px (fun _ => pm_aload_n (pc := 0) d_Mo_count_0 rfl) ?_
  refine px (fun _ => pm_iconst (v := 0) (pc := 1) d_Mo_count_1 rfl) ?_
  refine px (fun _ => pm_putfC (c' := pm_Ob 4 [.ref (96), .ref (97), .ref (98), .ref (99), .ref (100), .ref (101), .ref (102), .ref (103), .ref (104), .ref (105), .ref (106), .ref (107), .ref (108), .ref (109), .int (nI (mG T 0)), .int (nI (mG T 1)), .int (nI (mG T 2)), .int (nI (mG T 3)), .int (nI (mG T 4)), .int (0), .int (nI (mG T 6))]) fp_Mo_57 (pc := 2) d_Mo_count_2 H.1 (Nat.le_of_ble_eq_true rfl) rfl rfl rfl) ?_
  have H_1 : mH (msG T 5 0) (h.set (95) (pm_Ob 4 [.ref (96), .ref (97), .ref (98), .ref (99), .ref (100), .ref (101), .ref (102), .ref (103), .ref (104), .ref (105), .ref (106), .ref (107), .ref (108), .ref (109), .int (nI (mG T 0)), .int (nI (mG T 1)), .int (nI (mG T 2)), .int (nI (mG T 3)), .int (nI (mG T 4)), .int (0), .int (nI (mG T 6))])) := H.G5 (v := 0)
  refine px (fun _ => pm_iconst (v := 0) (pc := 5) d_Mo_count_5 rfl) ?_
  refine px (fun _ => pm_istore_n (lv' := [(2, .int (0)), (0, .ref (95)), (1, .int (2))]) (pc := 6) d_Mo_count_6 (by decide) rfl) ?_
  refine px (fun _ => pm_iconst (v := 0) (pc := 7) d_Mo_count_7 rfl) ?_
  refine px (fun _ => pm_istore_n (lv' := [(3, .int (0)), (2, .int (0)), (0, .ref (95)), (1, .int (2))]) (pc := 8) d_Mo_count_8 (by decide) rfl) ?_
  refine pxd [0, 1, 2, 3] rfl ?_
  refine lp_mcnt (T := msG T 5 0) (w9 := 2) H_1 hn ?_ (mG T 0) 0 0 (Nat.zero_add _) (Nat.zero_add _)
  refine px (fun _ => pm_iload_n (pc := 36) d_Mo_count_36 rfl) ?_
  refine px (fun _ => pm_tabIn (off := 57) (tgt := 94) (pc := 37) d_Mo_count_37 (by decide) (by decide) rfl (by decide)) ?_
  refine px (fun _ => pm_aload_n (pc := 94) d_Mo_count_94 rfl) ?_
  refine px (fun _ => pm_getf fl_Mo_61 (pc := 95) d_Mo_count_95 H_1.1 rfl) ?_
  exact pxr (pm_iret (pc := 98) d_Mo_count_98 rfl rfl) ⟨rfl, H_1, (mFr.set _ _ (by omega))⟩
set_option maxHeartbeats 1000000 in
set_option maxRecDepth 20000 in
theorem m_count_3 {l : Launch} {G : pm_G} {fi : Bool} {h : pm_H} {T : mS}  (hl : l.stackTraces = false) (H : mH T h) (hn : mG T 0 ≤ 14)  : pm_Cn l G fi fi 0 0 M_Mo_count [.ref (95), .int (3)] h (m_P (some (.int (nI (g_cnt (m_k2 T) 0 (mG T 0))))) (msG T 5 0) h) := by
  refine pm_Cn.of hl (by decide) (Nat.le_of_ble_eq_true rfl) ?_
  refine px (fun _ => pm_aload_n (pc := 0) d_Mo_count_0 rfl) ?_
  refine px (fun _ => pm_iconst (v := 0) (pc := 1) d_Mo_count_1 rfl) ?_
  refine px (fun _ => pm_putfC (c' := pm_Ob 4 [.ref (96), .ref (97), .ref (98), .ref (99), .ref (100), .ref (101), .ref (102), .ref (103), .ref (104), .ref (105), .ref (106), .ref (107), .ref (108), .ref (109), .int (nI (mG T 0)), .int (nI (mG T 1)), .int (nI (mG T 2)), .int (nI (mG T 3)), .int (nI (mG T 4)), .int (0), .int (nI (mG T 6))]) fp_Mo_57 (pc := 2) d_Mo_count_2 H.1 (Nat.le_of_ble_eq_true rfl) rfl rfl rfl) ?_
  have H_1 : mH (msG T 5 0) (h.set (95) (pm_Ob 4 [.ref (96), .ref (97), .ref (98), .ref (99), .ref (100), .ref (101), .ref (102), .ref (103), .ref (104), .ref (105), .ref (106), .ref (107), .ref (108), .ref (109), .int (nI (mG T 0)), .int (nI (mG T 1)), .int (nI (mG T 2)), .int (nI (mG T 3)), .int (nI (mG T 4)), .int (0), .int (nI (mG T 6))])) := H.G5 (v := 0)
  refine px (fun _ => pm_iconst (v := 0) (pc := 5) d_Mo_count_5 rfl) ?_
  refine px (fun _ => pm_istore_n (lv' := [(2, .int (0)), (0, .ref (95)), (1, .int (3))]) (pc := 6) d_Mo_count_6 (by decide) rfl) ?_
  refine px (fun _ => pm_iconst (v := 0) (pc := 7) d_Mo_count_7 rfl) ?_
  refine px (fun _ => pm_istore_n (lv' := [(3, .int (0)), (2, .int (0)), (0, .ref (95)), (1, .int (3))]) (pc := 8) d_Mo_count_8 (by decide) rfl) ?_
  refine pxd [0, 1, 2, 3] rfl ?_
  refine lp_mcnt (T := msG T 5 0) (w9 := 3) H_1 hn ?_ (mG T 0) 0 0 (Nat.zero_add _) (Nat.zero_add _)
  refine px (fun _ => pm_iload_n (pc := 36) d_Mo_count_36 rfl) ?_
  refine px (fun _ => pm_tabIn (off := 62) (tgt := 99) (pc := 37) d_Mo_count_37 (by decide) (by decide) rfl (by decide)) ?_
  refine px (fun _ => pm_iload_n (pc := 99) d_Mo_count_99 rfl) ?_
  exact pxr (pm_iret (pc := 100) d_Mo_count_100 rfl rfl) ⟨rfl, H_1, (mFr.set _ _ (by omega))⟩
set_option maxHeartbeats 1000000 in
set_option maxRecDepth 20000 in
theorem m_count_4 {l : Launch} {G : pm_G} {fi : Bool} {h : pm_H} {T : mS}  (hl : l.stackTraces = false) (H : mH T h) (hn : mG T 0 ≤ 14)  : pm_Cn l G fi fi 0 0 M_Mo_count [.ref (95), .int (4)] h (m_P (some (.int (nI (mG T 2)))) (msG T 5 0) h) := by
  refine pm_Cn.of hl (by decide) (Nat.le_of_ble_eq_true rfl) ?_
  refine px (fun _ => pm_aload_n (pc := 0) d_Mo_count_0 rfl) ?_
  refine px (fun _ => pm_iconst (v := 0) (pc := 1) d_Mo_count_1 rfl) ?_
  refine px (fun _ => pm_putfC (c' := pm_Ob 4 [.ref (96), .ref (97), .ref (98), .ref (99), .ref (100), .ref (101), .ref (102), .ref (103), .ref (104), .ref (105), .ref (106), .ref (107), .ref (108), .ref (109), .int (nI (mG T 0)), .int (nI (mG T 1)), .int (nI (mG T 2)), .int (nI (mG T 3)), .int (nI (mG T 4)), .int (0), .int (nI (mG T 6))]) fp_Mo_57 (pc := 2) d_Mo_count_2 H.1 (Nat.le_of_ble_eq_true rfl) rfl rfl rfl) ?_
  have H_1 : mH (msG T 5 0) (h.set (95) (pm_Ob 4 [.ref (96), .ref (97), .ref (98), .ref (99), .ref (100), .ref (101), .ref (102), .ref (103), .ref (104), .ref (105), .ref (106), .ref (107), .ref (108), .ref (109), .int (nI (mG T 0)), .int (nI (mG T 1)), .int (nI (mG T 2)), .int (nI (mG T 3)), .int (nI (mG T 4)), .int (0), .int (nI (mG T 6))])) := H.G5 (v := 0)
  refine px (fun _ => pm_iconst (v := 0) (pc := 5) d_Mo_count_5 rfl) ?_
  refine px (fun _ => pm_istore_n (lv' := [(2, .int (0)), (0, .ref (95)), (1, .int (4))]) (pc := 6) d_Mo_count_6 (by decide) rfl) ?_
  refine px (fun _ => pm_iconst (v := 0) (pc := 7) d_Mo_count_7 rfl) ?_
  refine px (fun _ => pm_istore_n (lv' := [(3, .int (0)), (2, .int (0)), (0, .ref (95)), (1, .int (4))]) (pc := 8) d_Mo_count_8 (by decide) rfl) ?_
  refine pxd [0, 1, 2, 3] rfl ?_
  refine lp_mcnt (T := msG T 5 0) (w9 := 4) H_1 hn ?_ (mG T 0) 0 0 (Nat.zero_add _) (Nat.zero_add _)
  refine px (fun _ => pm_iload_n (pc := 36) d_Mo_count_36 rfl) ?_
  refine px (fun _ => pm_tabIn (off := 64) (tgt := 101) (pc := 37) d_Mo_count_37 (by decide) (by decide) rfl (by decide)) ?_
  refine px (fun _ => pm_aload_n (pc := 101) d_Mo_count_101 rfl) ?_
  refine px (fun _ => pm_getf fl_Mo_171 (pc := 102) d_Mo_count_102 H_1.1 rfl) ?_
  exact pxr (pm_iret (pc := 105) d_Mo_count_105 rfl rfl) ⟨rfl, H_1, (mFr.set _ _ (by omega))⟩
set_option maxHeartbeats 1000000 in
set_option maxRecDepth 20000 in
theorem m_count_5 {l : Launch} {G : pm_G} {fi : Bool} {h : pm_H} {T : mS}  (hl : l.stackTraces = false) (H : mH T h) (hn : mG T 0 ≤ 14)  : pm_Cn l G fi fi 0 0 M_Mo_count [.ref (95), .int (5)] h (m_P (some (.int (nI (mG T 3)))) (msG T 5 0) h) := by
  refine pm_Cn.of hl (by decide) (Nat.le_of_ble_eq_true rfl) ?_
  refine px (fun _ => pm_aload_n (pc := 0) d_Mo_count_0 rfl) ?_
  refine px (fun _ => pm_iconst (v := 0) (pc := 1) d_Mo_count_1 rfl) ?_
  refine px (fun _ => pm_putfC (c' := pm_Ob 4 [.ref (96), .ref (97), .ref (98), .ref (99), .ref (100), .ref (101), .ref (102), .ref (103), .ref (104), .ref (105), .ref (106), .ref (107), .ref (108), .ref (109), .int (nI (mG T 0)), .int (nI (mG T 1)), .int (nI (mG T 2)), .int (nI (mG T 3)), .int (nI (mG T 4)), .int (0), .int (nI (mG T 6))]) fp_Mo_57 (pc := 2) d_Mo_count_2 H.1 (Nat.le_of_ble_eq_true rfl) rfl rfl rfl) ?_
  have H_1 : mH (msG T 5 0) (h.set (95) (pm_Ob 4 [.ref (96), .ref (97), .ref (98), .ref (99), .ref (100), .ref (101), .ref (102), .ref (103), .ref (104), .ref (105), .ref (106), .ref (107), .ref (108), .ref (109), .int (nI (mG T 0)), .int (nI (mG T 1)), .int (nI (mG T 2)), .int (nI (mG T 3)), .int (nI (mG T 4)), .int (0), .int (nI (mG T 6))])) := H.G5 (v := 0)
  refine px (fun _ => pm_iconst (v := 0) (pc := 5) d_Mo_count_5 rfl) ?_
  refine px (fun _ => pm_istore_n (lv' := [(2, .int (0)), (0, .ref (95)), (1, .int (5))]) (pc := 6) d_Mo_count_6 (by decide) rfl) ?_
  refine px (fun _ => pm_iconst (v := 0) (pc := 7) d_Mo_count_7 rfl) ?_
  refine px (fun _ => pm_istore_n (lv' := [(3, .int (0)), (2, .int (0)), (0, .ref (95)), (1, .int (5))]) (pc := 8) d_Mo_count_8 (by decide) rfl) ?_
  refine pxd [0, 1, 2, 3] rfl ?_
  refine lp_mcnt (T := msG T 5 0) (w9 := 5) H_1 hn ?_ (mG T 0) 0 0 (Nat.zero_add _) (Nat.zero_add _)
  refine px (fun _ => pm_iload_n (pc := 36) d_Mo_count_36 rfl) ?_
  refine px (fun _ => pm_tabIn (off := 69) (tgt := 106) (pc := 37) d_Mo_count_37 (by decide) (by decide) rfl (by decide)) ?_
  refine px (fun _ => pm_aload_n (pc := 106) d_Mo_count_106 rfl) ?_
  refine px (fun _ => pm_getf fl_Mo_174 (pc := 107) d_Mo_count_107 H_1.1 rfl) ?_
  exact pxr (pm_iret (pc := 110) d_Mo_count_110 rfl rfl) ⟨rfl, H_1, (mFr.set _ _ (by omega))⟩
set_option maxHeartbeats 1000000 in
set_option maxRecDepth 20000 in
theorem m_count_o {l : Launch} {G : pm_G} {fi : Bool} {h : pm_H} {T : mS} {k : Nat} (hl : l.stackTraces = false) (H : mH T h) (hn : mG T 0 ≤ 14) (hr : mG T 6 = 1) (hk : k < mG T 0) : pm_Cn l G fi fi 0 0 M_Mo_count [.ref (95), .int (nI (10 + k))] h (m_P (some (.int (nI (mA T 11 k)))) (msG T 5 0) h) := by
  refine pm_Cn.of hl (by decide) (Nat.le_of_ble_eq_true rfl) ?_
  refine px (fun _ => pm_aload_n (pc := 0) d_Mo_count_0 rfl) ?_
  refine px (fun _ => pm_iconst (v := 0) (pc := 1) d_Mo_count_1 rfl) ?_
  refine px (fun _ => pm_putfC (c' := pm_Ob 4 [.ref (96), .ref (97), .ref (98), .ref (99), .ref (100), .ref (101), .ref (102), .ref (103), .ref (104), .ref (105), .ref (106), .ref (107), .ref (108), .ref (109), .int (nI (mG T 0)), .int (nI (mG T 1)), .int (nI (mG T 2)), .int (nI (mG T 3)), .int (nI (mG T 4)), .int (0), .int (nI (mG T 6))]) fp_Mo_57 (pc := 2) d_Mo_count_2 H.1 (Nat.le_of_ble_eq_true rfl) rfl rfl rfl) ?_
  have H_1 : mH (msG T 5 0) (h.set (95) (pm_Ob 4 [.ref (96), .ref (97), .ref (98), .ref (99), .ref (100), .ref (101), .ref (102), .ref (103), .ref (104), .ref (105), .ref (106), .ref (107), .ref (108), .ref (109), .int (nI (mG T 0)), .int (nI (mG T 1)), .int (nI (mG T 2)), .int (nI (mG T 3)), .int (nI (mG T 4)), .int (0), .int (nI (mG T 6))])) := H.G5 (v := 0)
  refine px (fun _ => pm_iconst (v := 0) (pc := 5) d_Mo_count_5 rfl) ?_
  refine px (fun _ => pm_istore_n (lv' := [(2, .int (0)), (0, .ref (95)), (1, .int (nI (10 + k)))]) (pc := 6) d_Mo_count_6 (by decide) rfl) ?_
  refine px (fun _ => pm_iconst (v := 0) (pc := 7) d_Mo_count_7 rfl) ?_
  refine px (fun _ => pm_istore_n (lv' := [(3, .int (0)), (2, .int (0)), (0, .ref (95)), (1, .int (nI (10 + k)))]) (pc := 8) d_Mo_count_8 (by decide) rfl) ?_
  refine pxd [0, 1, 2, 3] rfl ?_
  refine lp_mcnt (T := msG T 5 0) (w9 := nI (10 + k)) H_1 hn ?_ (mG T 0) 0 0 (Nat.zero_add _) (Nat.zero_add _)
  refine px (fun _ => pm_iload_n (pc := 36) d_Mo_count_36 rfl) ?_
  refine px (fun _ => pm_tabOut (tgt := 111) (pc := 37) d_Mo_count_37 (Or.inr (by rw [nI_toInt (by omega)]; omega)) (by decide)) ?_
  refine px (fun _ => pm_iload_n (pc := 111) d_Mo_count_111 rfl) ?_
  refine px (fun _ => pm_bipush (v := 10) (pc := 112) d_Mo_count_112 rfl) ?_
  refine pxb (fun _ => pm_icmp_lt (pc := 114) (tgt := 147) d_Mo_count_114 (by decide)) (fun c_2 => absurd c_2 (fun q => absurd ((nI_ltI (a := 10 + k) (b := 10) (by omega) (by omega)).mp q) (by omega))) (fun c_2 => ?_)
  refine px (fun _ => pm_iload_n (pc := 117) d_Mo_count_117 rfl) ?_
  refine px (fun _ => pm_bipush (v := 10) (pc := 118) d_Mo_count_118 rfl) ?_
  refine px (fun _ => pm_isubN (a := (10 + k)) (b := 10) (pc := 120) d_Mo_count_120 (by omega)) ?_
  refine px (fun _ => pm_aload_n (pc := 121) d_Mo_count_121 rfl) ?_
  refine px (fun _ => pm_getf fl_Mo_82 (pc := 122) d_Mo_count_122 H_1.1 rfl) ?_
  refine pxb (fun _ => pm_icmp_ge (pc := 125) (tgt := 147) d_Mo_count_125 (by decide)) (fun c_3 => absurd c_3 (fun q => absurd ((nI_leI (a := mG T 0) (b := (10 + k) - 10) (by omega) (by omega)).mp q) (by omega))) (fun c_3 => ?_)
  refine px (fun _ => pm_aload_n (pc := 128) d_Mo_count_128 rfl) ?_
  refine px (fun _ => pm_getf fl_Mo_53 (pc := 129) d_Mo_count_129 H_1.1 rfl) ?_
  refine pxb (fun _ => pm_if_eq (pc := 132) (tgt := 147) d_Mo_count_132 (by decide)) (fun c_4 => absurd c_4 (fun q => absurd (show nI (mG T 6) = 0 from q) (by rw [hr]; decide))) (fun c_4 => ?_)
  refine px (fun _ => pm_aload_n (pc := 135) d_Mo_count_135 rfl) ?_
  refine px (fun _ => pm_getf fl_Mo_44 (pc := 136) d_Mo_count_136 H_1.1 rfl) ?_
  refine px (fun _ => pm_iload_n (pc := 139) d_Mo_count_139 rfl) ?_
  refine px (fun _ => pm_bipush (v := 10) (pc := 140) d_Mo_count_140 rfl) ?_
  refine px (fun _ => pm_isubN (a := (10 + k)) (b := 10) (pc := 142) d_Mo_count_142 (by omega)) ?_
  refine px (fun _ => pm_iald (j := k) (pc := 143) d_Mo_count_143 H_1.2.2.2.2.2.2.2.2.2.2.2.2.1 (by rw [show 10 + k - 10 = k by omega]) (by omega) (by decide)) ?_
  refine px (fun _ => pm_goto (tgt := 148) (pc := 144) d_Mo_count_144 (by decide)) ?_
  exact pxr (pm_iret (pc := 148) d_Mo_count_148 rfl rfl) ⟨rfl, H_1, (mFr.set _ _ (by omega))⟩
set_option maxHeartbeats 1000000 in
set_option maxRecDepth 20000 in
theorem m_count_n {l : Launch} {G : pm_G} {fi : Bool} {h : pm_H} {T : mS} {w9 : Int32} (hl : l.stackTraces = false) (H : mH T h) (hn : mG T 0 ≤ 14) (h6 : mG T 6 ≤ 1) (hx : w9.toInt < 0 ∨ 5 < w9.toInt) (hb : ¬ (mG T 6 = 1 ∧ ¬ w9 < 10 ∧ w9 < nI (10 + mG T 0))) : pm_Cn l G fi fi 0 0 M_Mo_count [.ref (95), .int (w9)] h (m_P (some (.int (-1))) (msG T 5 0) h) := by
  refine pm_Cn.of hl (by decide) (Nat.le_of_ble_eq_true rfl) ?_
  refine px (fun _ => pm_aload_n (pc := 0) d_Mo_count_0 rfl) ?_
  refine px (fun _ => pm_iconst (v := 0) (pc := 1) d_Mo_count_1 rfl) ?_
  refine px (fun _ => pm_putfC (c' := pm_Ob 4 [.ref (96), .ref (97), .ref (98), .ref (99), .ref (100), .ref (101), .ref (102), .ref (103), .ref (104), .ref (105), .ref (106), .ref (107), .ref (108), .ref (109), .int (nI (mG T 0)), .int (nI (mG T 1)), .int (nI (mG T 2)), .int (nI (mG T 3)), .int (nI (mG T 4)), .int (0), .int (nI (mG T 6))]) fp_Mo_57 (pc := 2) d_Mo_count_2 H.1 (Nat.le_of_ble_eq_true rfl) rfl rfl rfl) ?_
  have H_1 : mH (msG T 5 0) (h.set (95) (pm_Ob 4 [.ref (96), .ref (97), .ref (98), .ref (99), .ref (100), .ref (101), .ref (102), .ref (103), .ref (104), .ref (105), .ref (106), .ref (107), .ref (108), .ref (109), .int (nI (mG T 0)), .int (nI (mG T 1)), .int (nI (mG T 2)), .int (nI (mG T 3)), .int (nI (mG T 4)), .int (0), .int (nI (mG T 6))])) := H.G5 (v := 0)
  refine px (fun _ => pm_iconst (v := 0) (pc := 5) d_Mo_count_5 rfl) ?_
  refine px (fun _ => pm_istore_n (lv' := [(2, .int (0)), (0, .ref (95)), (1, .int (w9))]) (pc := 6) d_Mo_count_6 (by decide) rfl) ?_
  refine px (fun _ => pm_iconst (v := 0) (pc := 7) d_Mo_count_7 rfl) ?_
  refine px (fun _ => pm_istore_n (lv' := [(3, .int (0)), (2, .int (0)), (0, .ref (95)), (1, .int (w9))]) (pc := 8) d_Mo_count_8 (by decide) rfl) ?_
  refine pxd [0, 1, 2, 3] rfl ?_
  refine lp_mcnt (T := msG T 5 0) (w9 := w9) H_1 hn ?_ (mG T 0) 0 0 (Nat.zero_add _) (Nat.zero_add _)
  refine px (fun _ => pm_iload_n (pc := 36) d_Mo_count_36 rfl) ?_
  refine px (fun _ => pm_tabOut (tgt := 111) (pc := 37) d_Mo_count_37 (hx) (by decide)) ?_
  refine px (fun _ => pm_iload_n (pc := 111) d_Mo_count_111 rfl) ?_
  refine px (fun _ => pm_bipush (v := 10) (pc := 112) d_Mo_count_112 rfl) ?_
  refine pxb (fun _ => pm_icmp_lt (pc := 114) (tgt := 147) d_Mo_count_114 (by decide)) (fun c_2 => ?_) (fun c_2 => ?_)
  · refine px (fun _ => pm_iconst (v := -1) (pc := 147) d_Mo_count_147 rfl) ?_
    exact pxr (pm_iret (pc := 148) d_Mo_count_148 rfl rfl) ⟨rfl, H_1, (mFr.set _ _ (by omega))⟩
  · refine px (fun _ => pm_iload_n (pc := 117) d_Mo_count_117 rfl) ?_
    refine px (fun _ => pm_bipush (v := 10) (pc := 118) d_Mo_count_118 rfl) ?_
    refine px (fun _ => pm_isub (pc := 120) d_Mo_count_120) ?_
    refine px (fun _ => pm_aload_n (pc := 121) d_Mo_count_121 rfl) ?_
    refine px (fun _ => pm_getf fl_Mo_82 (pc := 122) d_Mo_count_122 H_1.1 rfl) ?_
    refine pxb (fun _ => pm_icmp_ge (pc := 125) (tgt := 147) d_Mo_count_125 (by decide)) (fun c_3 => ?_) (fun c_3 => ?_)
    · refine px (fun _ => pm_iconst (v := -1) (pc := 147) d_Mo_count_147 rfl) ?_
      exact pxr (pm_iret (pc := 148) d_Mo_count_148 rfl rfl) ⟨rfl, H_1, (mFr.set _ _ (by omega))⟩
    · refine px (fun _ => pm_aload_n (pc := 128) d_Mo_count_128 rfl) ?_
      refine px (fun _ => pm_getf fl_Mo_53 (pc := 129) d_Mo_count_129 H_1.1 rfl) ?_
      refine pxb (fun _ => pm_if_eq (pc := 132) (tgt := 147) d_Mo_count_132 (by decide)) (fun c_4 => ?_) (fun c_4 => ?_)
      · refine px (fun _ => pm_iconst (v := -1) (pc := 147) d_Mo_count_147 rfl) ?_
        exact pxr (pm_iret (pc := 148) d_Mo_count_148 rfl rfl) ⟨rfl, H_1, (mFr.set _ _ (by omega))⟩
      · exact absurd ⟨g_b01 h6 (show ¬ nI (mG T 6) = 0 by assumption), by assumption, g_sub10 hn (by assumption) (show ¬ nI (mG T 0) ≤ w9 - 10 by assumption)⟩ hb
