/-! ===== the class: run, however it ends ===== -/
set_option maxHeartbeats 4000000 in
set_option maxRecDepth 20000 in
theorem c_run_x {l : Launch} {G : pm_G} {fi : Bool} {h : pm_H} {S : gS} {s : Nat} (hl : l.stackTraces = false) (H : gH S h) (hI : gI S) (hs : s < 20) (hk : ¬ gK S s 0 = 0) (hr : gG S 1 = 1) : pm_Cn l G fi false 1 6 M_Gr_run [.ref 0, .int (nI s)] h (fun r => gFr h r.2 ∧ ((∃ k m S7, r.1 = .inl (some (.int (nI (gG S7 2) - nI (gG S 2)))) ∧ gRn S s k m S7 ∧ g_thP S7 s ∧ gH S7 r.2) ∨ (∃ e S7, ((e = 1 ∧ r.1 = .inr "java/lang/ArithmeticException") ∨ (e = 2 ∧ r.1 = .inr "java/lang/IndexOutOfBoundsException")) ∧ gBd S s e S7 ∧ gH S7 r.2))) := by
  refine pm_Cn.of hl (by decide) (Nat.le_of_ble_eq_true rfl) ?_
  have hW := hI.1
  have bs := hW.2.2.2.2.1 s hs
  have hR := gRI_ok (S0 := S) hs hk
  have K : pm_Cn l G fi fi 0 0 M_Gr_runFor [.ref 0, .int (nI s)] h (g_PR (gRn S s) (gBd S s) h) := by
    by_cases ht : g_thP S s
    · exact c_runFor1 hl H hW hs hR ht (gRn.z0 hI hr ht)
    · exact c_runFor0 hl H hW hs hR ht (gRn.z1 hs hk hI hr ht)
  obtain ⟨⟨o7, h7⟩, ⟨F7, p7⟩, en7⟩ := K
  dsimp only at F7 p7
  rcases p7 with ⟨e7, k7, m7, S7, iv7, d7, H7⟩ | ⟨e7, S7, n7, l7, r7, b7, H7⟩
  · subst e7
    refine px (fun _ => pm_iload_n (pc := 0) d_Gr_run_0 rfl) ?_
    refine px (fun _ => k_Gr_run_1 (kc1 := 0) (ks1 := 0) (kc := 1) (ks := 6) (av := [.int (nI s)]) (st := []) (c_isSlot_in hl hs) rfl rfl (Nat.le_of_ble_eq_true rfl)) ?_
    refine pxb (fun _ => pm_if_eq (pc := 4) (tgt := 19) d_Gr_run_4 (by decide)) (fun c_1 => absurd c_1 (by decide)) (fun c_1 => ?_)
    refine px (fun _ => pm_aload_n (pc := 7) d_Gr_run_7 rfl) ?_
    refine px (fun _ => pm_getf fl_Gr_11 (pc := 8) d_Gr_run_8 H.1 rfl) ?_
    refine px (fun _ => pm_iload_n (pc := 11) d_Gr_run_11 rfl) ?_
    obtain ⟨f_2, hf_3, gf_4⟩ := id H.2.1
    refine px (fun _ => pm_aald (kd := 3) (Cn := "GraphRunner$Slot") (j := s) (pc := 12) d_Gr_run_12 (fun _ => rfl) hf_3 (rfl) (hs) (by decide) (gf_4 s hs)) ?_
    refine px (fun _ => pm_getf fl_Gr_64 (pc := 13) d_Gr_run_13 (H.2.2.2.2.2.2.1 s hs).1 rfl) ?_
    refine pxn (fun _ => pm_if_ne (pc := 16) (tgt := 27) d_Gr_run_16 (by decide)) (fun c_5 => ?_) (fun c_5 => absurd c_5 (fun q => hk ((nI_eq (a := gK S s 0) (b := 0) (by omega) (by omega)).mp q)))
    refine px (fun _ => pm_aload_n (pc := 27) d_Gr_run_27 rfl) ?_
    refine px (fun _ => pm_getf fl_Gr_39 (pc := 28) d_Gr_run_28 H.1 rfl) ?_
    refine pxn (fun _ => pm_if_ne (pc := 31) (tgt := 42) d_Gr_run_31 (by decide)) (fun c_6 => ?_) (fun c_6 => absurd c_6 (by rw [hr]; decide))
    refine px (fun _ => pm_aload_n (pc := 42) d_Gr_run_42 rfl) ?_
    refine px (fun _ => pm_getf fl_Gr_43 (pc := 43) d_Gr_run_43 H.1 rfl) ?_
    refine px (fun _ => pm_istore_n (lv' := [(2, .int (nI (gG S 2))), (0, .ref (0)), (1, .int (nI s))]) (pc := 46) d_Gr_run_46 (by decide) rfl) ?_
    refine px (fun _ => pm_aload_n (pc := 47) d_Gr_run_47 rfl) ?_
    refine px (fun _ => pm_iload_n (pc := 48) d_Gr_run_48 rfl) ?_
    refine px (fun _ => k_Gr_run_49 (kc1 := 0) (ks1 := 0) (kc := 1) (ks := 6) (av := [.int (nI s)]) (st := []) H.1 (en7) rfl rfl (Nat.le_of_ble_eq_true rfl)) ?_
    refine px (fun _ => pm_istore_n (lv' := [(3, .int (0)), (2, .int (nI (gG S 2))), (0, .ref (0)), (1, .int (nI s))]) (pc := 52) d_Gr_run_52 (by decide) rfl) ?_
    refine px (fun _ => pm_iload_n (pc := 53) d_Gr_run_53 rfl) ?_
    refine px (fun _ => pm_iconst (v := 1) (pc := 54) d_Gr_run_54 rfl) ?_
    refine pxn (fun _ => pm_icmp_ne (pc := 55) (tgt := 66) d_Gr_run_55 (by decide)) (fun c_7 => ?_) (fun c_7 => absurd c_7 (by decide))
    refine px (fun _ => pm_iload_n (pc := 66) d_Gr_run_66 rfl) ?_
    refine px (fun _ => pm_iconst (v := 2) (pc := 67) d_Gr_run_67 rfl) ?_
    refine pxn (fun _ => pm_icmp_ne (pc := 68) (tgt := 79) d_Gr_run_68 (by decide)) (fun c_8 => ?_) (fun c_8 => absurd c_8 (by decide))
    refine px (fun _ => pm_aload_n (pc := 79) d_Gr_run_79 rfl) ?_
    refine px (fun _ => pm_getf fl_Gr_43 (pc := 80) d_Gr_run_80 H7.1 rfl) ?_
    refine px (fun _ => pm_iload_n (pc := 83) d_Gr_run_83 rfl) ?_
    refine px (fun _ => pm_isub (pc := 84) d_Gr_run_84) ?_
    exact pxr (((pm_iret (pc := 85) d_Gr_run_85 rfl rfl).more (Nat.zero_le _) (Nat.zero_le _)).wk id (fun q => nomatch q)) ⟨F7, Or.inl ⟨k7, m7, S7, rfl, iv7, (iv7.end d7).2, H7⟩⟩
  · have e12 : e7 = 1 ∨ e7 = 2 := by omega
    rcases e12 with rfl | rfl
    · subst r7
      refine px (fun _ => pm_iload_n (pc := 0) d_Gr_run_0 rfl) ?_
      refine px (fun _ => k_Gr_run_1 (kc1 := 0) (ks1 := 0) (kc := 1) (ks := 6) (av := [.int (nI s)]) (st := []) (c_isSlot_in hl hs) rfl rfl (Nat.le_of_ble_eq_true rfl)) ?_
      refine pxb (fun _ => pm_if_eq (pc := 4) (tgt := 19) d_Gr_run_4 (by decide)) (fun c_1 => absurd c_1 (by decide)) (fun c_1 => ?_)
      refine px (fun _ => pm_aload_n (pc := 7) d_Gr_run_7 rfl) ?_
      refine px (fun _ => pm_getf fl_Gr_11 (pc := 8) d_Gr_run_8 H.1 rfl) ?_
      refine px (fun _ => pm_iload_n (pc := 11) d_Gr_run_11 rfl) ?_
      obtain ⟨f_2, hf_3, gf_4⟩ := id H.2.1
      refine px (fun _ => pm_aald (kd := 3) (Cn := "GraphRunner$Slot") (j := s) (pc := 12) d_Gr_run_12 (fun _ => rfl) hf_3 (rfl) (hs) (by decide) (gf_4 s hs)) ?_
      refine px (fun _ => pm_getf fl_Gr_64 (pc := 13) d_Gr_run_13 (H.2.2.2.2.2.2.1 s hs).1 rfl) ?_
      refine pxn (fun _ => pm_if_ne (pc := 16) (tgt := 27) d_Gr_run_16 (by decide)) (fun c_5 => ?_) (fun c_5 => absurd c_5 (fun q => hk ((nI_eq (a := gK S s 0) (b := 0) (by omega) (by omega)).mp q)))
      refine px (fun _ => pm_aload_n (pc := 27) d_Gr_run_27 rfl) ?_
      refine px (fun _ => pm_getf fl_Gr_39 (pc := 28) d_Gr_run_28 H.1 rfl) ?_
      refine pxn (fun _ => pm_if_ne (pc := 31) (tgt := 42) d_Gr_run_31 (by decide)) (fun c_6 => ?_) (fun c_6 => absurd c_6 (by rw [hr]; decide))
      refine px (fun _ => pm_aload_n (pc := 42) d_Gr_run_42 rfl) ?_
      refine px (fun _ => pm_getf fl_Gr_43 (pc := 43) d_Gr_run_43 H.1 rfl) ?_
      refine px (fun _ => pm_istore_n (lv' := [(2, .int (nI (gG S 2))), (0, .ref (0)), (1, .int (nI s))]) (pc := 46) d_Gr_run_46 (by decide) rfl) ?_
      refine px (fun _ => pm_aload_n (pc := 47) d_Gr_run_47 rfl) ?_
      refine px (fun _ => pm_iload_n (pc := 48) d_Gr_run_48 rfl) ?_
      refine px (fun _ => k_Gr_run_49 (kc1 := 0) (ks1 := 0) (kc := 1) (ks := 6) (av := [.int (nI s)]) (st := []) H.1 (en7) rfl rfl (Nat.le_of_ble_eq_true rfl)) ?_
      refine px (fun _ => pm_istore_n (lv' := [(3, .int (1)), (2, .int (nI (gG S 2))), (0, .ref (0)), (1, .int (nI s))]) (pc := 52) d_Gr_run_52 (by decide) rfl) ?_
      refine px (fun _ => pm_iload_n (pc := 53) d_Gr_run_53 rfl) ?_
      refine px (fun _ => pm_iconst (v := 1) (pc := 54) d_Gr_run_54 rfl) ?_
      refine pxn (fun _ => pm_icmp_ne (pc := 55) (tgt := 66) d_Gr_run_55 (by decide)) (fun c_7 => absurd (by decide) c_7) (fun c_7 => ?_)
      exact pxr x_Gr_run_58 ⟨F7, Or.inr ⟨1, S7, Or.inl ⟨rfl, rfl⟩, b7, H7⟩⟩
    · subst r7
      refine px (fun _ => pm_iload_n (pc := 0) d_Gr_run_0 rfl) ?_
      refine px (fun _ => k_Gr_run_1 (kc1 := 0) (ks1 := 0) (kc := 1) (ks := 6) (av := [.int (nI s)]) (st := []) (c_isSlot_in hl hs) rfl rfl (Nat.le_of_ble_eq_true rfl)) ?_
      refine pxb (fun _ => pm_if_eq (pc := 4) (tgt := 19) d_Gr_run_4 (by decide)) (fun c_1 => absurd c_1 (by decide)) (fun c_1 => ?_)
      refine px (fun _ => pm_aload_n (pc := 7) d_Gr_run_7 rfl) ?_
      refine px (fun _ => pm_getf fl_Gr_11 (pc := 8) d_Gr_run_8 H.1 rfl) ?_
      refine px (fun _ => pm_iload_n (pc := 11) d_Gr_run_11 rfl) ?_
      obtain ⟨f_2, hf_3, gf_4⟩ := id H.2.1
      refine px (fun _ => pm_aald (kd := 3) (Cn := "GraphRunner$Slot") (j := s) (pc := 12) d_Gr_run_12 (fun _ => rfl) hf_3 (rfl) (hs) (by decide) (gf_4 s hs)) ?_
      refine px (fun _ => pm_getf fl_Gr_64 (pc := 13) d_Gr_run_13 (H.2.2.2.2.2.2.1 s hs).1 rfl) ?_
      refine pxn (fun _ => pm_if_ne (pc := 16) (tgt := 27) d_Gr_run_16 (by decide)) (fun c_5 => ?_) (fun c_5 => absurd c_5 (fun q => hk ((nI_eq (a := gK S s 0) (b := 0) (by omega) (by omega)).mp q)))
      refine px (fun _ => pm_aload_n (pc := 27) d_Gr_run_27 rfl) ?_
      refine px (fun _ => pm_getf fl_Gr_39 (pc := 28) d_Gr_run_28 H.1 rfl) ?_
      refine pxn (fun _ => pm_if_ne (pc := 31) (tgt := 42) d_Gr_run_31 (by decide)) (fun c_6 => ?_) (fun c_6 => absurd c_6 (by rw [hr]; decide))
      refine px (fun _ => pm_aload_n (pc := 42) d_Gr_run_42 rfl) ?_
      refine px (fun _ => pm_getf fl_Gr_43 (pc := 43) d_Gr_run_43 H.1 rfl) ?_
      refine px (fun _ => pm_istore_n (lv' := [(2, .int (nI (gG S 2))), (0, .ref (0)), (1, .int (nI s))]) (pc := 46) d_Gr_run_46 (by decide) rfl) ?_
      refine px (fun _ => pm_aload_n (pc := 47) d_Gr_run_47 rfl) ?_
      refine px (fun _ => pm_iload_n (pc := 48) d_Gr_run_48 rfl) ?_
      refine px (fun _ => k_Gr_run_49 (kc1 := 0) (ks1 := 0) (kc := 1) (ks := 6) (av := [.int (nI s)]) (st := []) H.1 (en7) rfl rfl (Nat.le_of_ble_eq_true rfl)) ?_
      refine px (fun _ => pm_istore_n (lv' := [(3, .int (2)), (2, .int (nI (gG S 2))), (0, .ref (0)), (1, .int (nI s))]) (pc := 52) d_Gr_run_52 (by decide) rfl) ?_
      refine px (fun _ => pm_iload_n (pc := 53) d_Gr_run_53 rfl) ?_
      refine px (fun _ => pm_iconst (v := 1) (pc := 54) d_Gr_run_54 rfl) ?_
      refine pxn (fun _ => pm_icmp_ne (pc := 55) (tgt := 66) d_Gr_run_55 (by decide)) (fun c_7 => ?_) (fun c_7 => absurd c_7 (by decide))
      refine px (fun _ => pm_iload_n (pc := 66) d_Gr_run_66 rfl) ?_
      refine px (fun _ => pm_iconst (v := 2) (pc := 67) d_Gr_run_67 rfl) ?_
      refine pxn (fun _ => pm_icmp_ne (pc := 68) (tgt := 79) d_Gr_run_68 (by decide)) (fun c_8 => absurd (by decide) c_8) (fun c_8 => ?_)
      exact pxr x_Gr_run_71 ⟨F7, Or.inr ⟨2, S7, Or.inr ⟨rfl, rfl⟩, b7, H7⟩⟩
