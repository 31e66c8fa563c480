/-! ===== the model: sums over rows and columns ===== -/
set_option maxHeartbeats 1000000 in
set_option maxRecDepth 20000 in
theorem lp_tot11 {l : Launch} {G : pm_G} {fi : Bool} {h : pm_H} {S : gS} {T : mS} {a i j : Nat} (hl : l.stackTraces = false) (H : mH T h) (ha : a < 20) (ta : mTb S T a) (ca : mCl S T a) (ra : g_rng S a) (hj : j < gT S a 2) (hty : gT S a 0 = 1) : ∀ (d k : Nat) (acc : UInt64), k + d = gT S a 1 → acc = g_acc (gT S a 0) (g_c0 S a j) k → pm_Px l G fi fi 0 0 M_Mo_total 28 [(8, .int (nI k)), (6, .double (acc)), (5, .int (nI (gT S a 1))), (0, .ref (95)), (1, .int (nI a)), (2, .int (nI i)), (3, .int (nI j)), (4, .int (1))] [] h (fun r => r = (.inl (some (.double (g_acc (gT S a 0) (g_c0 S a j) (gT S a 1)))), h)) := by
  obtain ⟨t1, t2, t3⟩ := id ta
  obtain ⟨r1, r2, r3, r4, r5⟩ := id ra
  intro d
  induction d with
  | zero =>
    intro k acc hd he
    obtain rfl : k = gT S a 1 := by omega
    refine px (fun _ => pm_iload (pc := 28) d_Mo_total_28 rfl) ?_
    refine px (fun _ => pm_iload (pc := 30) d_Mo_total_30 rfl) ?_
    refine pxb (fun _ => pm_icmp_ge (pc := 32) (tgt := 97) d_Mo_total_32 (by decide)) (fun c_1 => ?_) (fun c_1 => absurd ((nI_leI (a := gT S a 1) (b := gT S a 1) (by omega) (by omega)).mpr (by omega)) c_1)
    refine px (fun _ => pm_dload (pc := 97) d_Mo_total_97 rfl) ?_
    exact pxr (pm_dret (pc := 99) d_Mo_total_99 rfl) (by rw [he])
  | succ d ih =>
    intro k acc hd he
    refine px (fun _ => pm_iload (pc := 28) d_Mo_total_28 rfl) ?_
    refine px (fun _ => pm_iload (pc := 30) d_Mo_total_30 rfl) ?_
    refine pxb (fun _ => pm_icmp_ge (pc := 32) (tgt := 97) d_Mo_total_32 (by decide)) (fun c_1 => absurd c_1 (fun q => absurd ((nI_leI (a := gT S a 1) (b := k) (by omega) (by omega)).mp q) (by omega))) (fun c_1 => ?_)
    refine px (fun _ => pm_iload (pc := 35) d_Mo_total_35 rfl) ?_
    refine pxb (fun _ => pm_if_eq (pc := 37) (tgt := 51) d_Mo_total_37 (by decide)) (fun c_2 => absurd c_2 (by decide)) (fun c_2 => ?_)
    refine px (fun _ => pm_aload_n (pc := 40) d_Mo_total_40 rfl) ?_
    refine px (fun _ => pm_iload_n (pc := 41) d_Mo_total_41 rfl) ?_
    refine px (fun _ => pm_iload (pc := 42) d_Mo_total_42 rfl) ?_
    refine px (fun _ => pm_iload_n (pc := 44) d_Mo_total_44 rfl) ?_
    refine px (fun _ => k_Mo_total_45 (kc1 := 0) (ks1 := 0) (kc := 0) (ks := 0) (av := [.int (nI a), .int (nI k), .int (nI j)]) (st := []) H.1 (m_at2 hl H ha ta ca ra (by omega) (hj)) rfl rfl (Nat.le_of_ble_eq_true rfl)) ?_
    refine px (fun _ => pm_goto (tgt := 59) (pc := 48) d_Mo_total_48 (by decide)) ?_
    refine px (fun _ => pm_dstore (lv' := [(9, .double (gC S a (k * 4 + j))), (8, .int (nI k)), (6, .double (acc)), (5, .int (nI (gT S a 1))), (0, .ref (95)), (1, .int (nI a)), (2, .int (nI i)), (3, .int (nI j)), (4, .int (1))]) (pc := 59) d_Mo_total_59 (by decide) rfl) ?_
    refine px (fun _ => pm_aload_n (pc := 61) d_Mo_total_61 rfl) ?_
    refine px (fun _ => pm_getf fl_Mo_13 (pc := 62) d_Mo_total_62 H.1 rfl) ?_
    refine px (fun _ => pm_iload_n (pc := 65) d_Mo_total_65 rfl) ?_
    refine px (fun _ => pm_iald (j := a) (pc := 66) d_Mo_total_66 H.2.2.1 (rfl) (ha) (by decide)) ?_
    refine px (fun _ => pm_iconst (v := 1) (pc := 67) d_Mo_total_67 rfl) ?_
    refine pxn (fun _ => pm_icmp_ne (pc := 68) (tgt := 84) d_Mo_total_68 (by decide)) (fun c_3 => absurd (by rw [t1, hty]; rfl) c_3) (fun c_3 => ?_)
    refine px (fun _ => pm_dload (pc := 71) d_Mo_total_71 rfl) ?_
    refine px (fun _ => pm_d2i (pc := 73) d_Mo_total_73) ?_
    refine px (fun _ => pm_dload (pc := 74) d_Mo_total_74 rfl) ?_
    refine px (fun _ => pm_d2i (pc := 76) d_Mo_total_76) ?_
    refine px (fun _ => pm_iadd (pc := 77) d_Mo_total_77) ?_
    refine px (fun _ => pm_i2d (pc := 78) d_Mo_total_78) ?_
    refine px (fun _ => pm_dstore (lv' := [(6, .double ((FP.i2d (((FP.d2i (acc)) + (FP.d2i (gC S a (k * 4 + j)))))))), (9, .double (gC S a (k * 4 + j))), (8, .int (nI k)), (5, .int (nI (gT S a 1))), (0, .ref (95)), (1, .int (nI a)), (2, .int (nI i)), (3, .int (nI j)), (4, .int (1))]) (pc := 79) d_Mo_total_79 (by decide) rfl) ?_
    refine px (fun _ => pm_goto (tgt := 91) (pc := 81) d_Mo_total_81 (by decide)) ?_
    refine px (fun _ => pm_iinc (x := nI k) (v := nI (k + 1)) (lv' := [(8, .int (nI (k + 1))), (6, .double ((FP.i2d (((FP.d2i (acc)) + (FP.d2i (gC S a (k * 4 + j)))))))), (9, .double (gC S a (k * 4 + j))), (5, .int (nI (gT S a 1))), (0, .ref (95)), (1, .int (nI a)), (2, .int (nI i)), (3, .int (nI j)), (4, .int (1))]) (pc := 91) d_Mo_total_91 rfl (nI_1 _) (by decide) rfl) ?_
    refine px (fun _ => pm_goto (tgt := 28) (pc := 94) d_Mo_total_94 (by decide)) ?_
    refine pxd [0, 1, 3, 4, 5, 6, 7, 8] rfl ?_
    exact ih (k + 1) _ (by omega) (by rw [he]; simp only [g_acc, g_ad]; rw [if_pos hty]; rfl)
set_option maxHeartbeats 1000000 in
set_option maxRecDepth 20000 in
theorem m_tot11 {l : Launch} {G : pm_G} {fi : Bool} {h : pm_H} {S : gS} {T : mS} {a i j : Nat} (hl : l.stackTraces = false) (H : mH T h) (ha : a < 20) (ta : mTb S T a) (ca : mCl S T a) (ra : g_rng S a) (hj : j < gT S a 2) (hty : gT S a 0 = 1) : pm_En l G fi fi 0 0 M_Mo_total [.ref (95), .int (nI a), .int (nI i), .int (nI j), .int (1)] h (.inl (some (.double (g_acc (gT S a 0) (g_c0 S a j) (gT S a 1)))), h) := by
  refine pm_Cn.eq (pm_Cn.of hl (by decide) (Nat.le_of_ble_eq_true rfl) ?_)
  obtain ⟨t1, t2, t3⟩ := id ta
  obtain ⟨r1, r2, r3, r4, r5⟩ := id ra
  refine px (fun _ => pm_iload (pc := 0) d_Mo_total_0 rfl) ?_
  refine pxb (fun _ => pm_if_eq (pc := 2) (tgt := 14) d_Mo_total_2 (by decide)) (fun c_1 => absurd c_1 (by decide)) (fun c_1 => ?_)
  refine px (fun _ => pm_aload_n (pc := 5) d_Mo_total_5 rfl) ?_
  refine px (fun _ => pm_getf fl_Mo_16 (pc := 6) d_Mo_total_6 H.1 rfl) ?_
  refine px (fun _ => pm_iload_n (pc := 9) d_Mo_total_9 rfl) ?_
  refine px (fun _ => pm_iald (j := a) (pc := 10) d_Mo_total_10 H.2.2.2.1 (rfl) (ha) (by decide)) ?_
  refine px (fun _ => pm_goto (tgt := 20) (pc := 11) d_Mo_total_11 (by decide)) ?_
  refine px (fun _ => pm_istore (lv' := [(5, .int (nI (mA T 2 a))), (0, .ref (95)), (1, .int (nI a)), (2, .int (nI i)), (3, .int (nI j)), (4, .int (1))]) (pc := 20) d_Mo_total_20 (by decide) rfl) ?_
  refine px (fun _ => pm_dconst0 (pc := 22) d_Mo_total_22) ?_
  refine px (fun _ => pm_dstore (lv' := [(6, .double (FP.dconst0)), (5, .int (nI (mA T 2 a))), (0, .ref (95)), (1, .int (nI a)), (2, .int (nI i)), (3, .int (nI j)), (4, .int (1))]) (pc := 23) d_Mo_total_23 (by decide) rfl) ?_
  refine px (fun _ => pm_iconst (v := 0) (pc := 25) d_Mo_total_25 rfl) ?_
  refine px (fun _ => pm_istore (lv' := [(8, .int (0)), (6, .double (FP.dconst0)), (5, .int (nI (mA T 2 a))), (0, .ref (95)), (1, .int (nI a)), (2, .int (nI i)), (3, .int (nI j)), (4, .int (1))]) (pc := 26) d_Mo_total_26 (by decide) rfl) ?_
  rw [t2]
  refine pxd [0, 1, 2, 3, 4, 5, 6, 7] rfl ?_
  exact lp_tot11 hl H ha ta ca ra hj hty (gT S a 1) 0 _ (by omega) rfl
set_option maxHeartbeats 1000000 in
set_option maxRecDepth 20000 in
theorem lp_tot10 {l : Launch} {G : pm_G} {fi : Bool} {h : pm_H} {S : gS} {T : mS} {a i j : Nat} (hl : l.stackTraces = false) (H : mH T h) (ha : a < 20) (ta : mTb S T a) (ca : mCl S T a) (ra : g_rng S a) (hj : j < gT S a 2) (hty : ¬ gT S a 0 = 1) (hB : ∀ k, k < gT S a 1 → gB ((g_c0 S a j) k)) : ∀ (d k : Nat) (acc : UInt64), k + d = gT S a 1 → acc = g_acc (gT S a 0) (g_c0 S a j) k → pm_Px l G fi fi 0 0 M_Mo_total 28 [(8, .int (nI k)), (6, .double (acc)), (5, .int (nI (gT S a 1))), (0, .ref (95)), (1, .int (nI a)), (2, .int (nI i)), (3, .int (nI j)), (4, .int (1))] [] h (fun r => r = (.inl (some (.double (g_acc (gT S a 0) (g_c0 S a j) (gT S a 1)))), h)) := by
  obtain ⟨t1, t2, t3⟩ := id ta
  obtain ⟨r1, r2, r3, r4, r5⟩ := id ra
  intro d
  induction d with
  | zero =>
    intro k acc hd he
    obtain rfl : k = gT S a 1 := by omega
    refine px (fun _ => pm_iload (pc := 28) d_Mo_total_28 rfl) ?_
    refine px (fun _ => pm_iload (pc := 30) d_Mo_total_30 rfl) ?_
    refine pxb (fun _ => pm_icmp_ge (pc := 32) (tgt := 97) d_Mo_total_32 (by decide)) (fun c_1 => ?_) (fun c_1 => absurd ((nI_leI (a := gT S a 1) (b := gT S a 1) (by omega) (by omega)).mpr (by omega)) c_1)
    refine px (fun _ => pm_dload (pc := 97) d_Mo_total_97 rfl) ?_
    exact pxr (pm_dret (pc := 99) d_Mo_total_99 rfl) (by rw [he])
  | succ d ih =>
    intro k acc hd he
    refine px (fun _ => pm_iload (pc := 28) d_Mo_total_28 rfl) ?_
    refine px (fun _ => pm_iload (pc := 30) d_Mo_total_30 rfl) ?_
    refine pxb (fun _ => pm_icmp_ge (pc := 32) (tgt := 97) d_Mo_total_32 (by decide)) (fun c_1 => absurd c_1 (fun q => absurd ((nI_leI (a := gT S a 1) (b := k) (by omega) (by omega)).mp q) (by omega))) (fun c_1 => ?_)
    refine px (fun _ => pm_iload (pc := 35) d_Mo_total_35 rfl) ?_
    refine pxb (fun _ => pm_if_eq (pc := 37) (tgt := 51) d_Mo_total_37 (by decide)) (fun c_2 => absurd c_2 (by decide)) (fun c_2 => ?_)
    refine px (fun _ => pm_aload_n (pc := 40) d_Mo_total_40 rfl) ?_
    refine px (fun _ => pm_iload_n (pc := 41) d_Mo_total_41 rfl) ?_
    refine px (fun _ => pm_iload (pc := 42) d_Mo_total_42 rfl) ?_
    refine px (fun _ => pm_iload_n (pc := 44) d_Mo_total_44 rfl) ?_
    refine px (fun _ => k_Mo_total_45 (kc1 := 0) (ks1 := 0) (kc := 0) (ks := 0) (av := [.int (nI a), .int (nI k), .int (nI j)]) (st := []) H.1 (m_at2 hl H ha ta ca ra (by omega) (hj)) rfl rfl (Nat.le_of_ble_eq_true rfl)) ?_
    refine px (fun _ => pm_goto (tgt := 59) (pc := 48) d_Mo_total_48 (by decide)) ?_
    refine px (fun _ => pm_dstore (lv' := [(9, .double (gC S a (k * 4 + j))), (8, .int (nI k)), (6, .double (acc)), (5, .int (nI (gT S a 1))), (0, .ref (95)), (1, .int (nI a)), (2, .int (nI i)), (3, .int (nI j)), (4, .int (1))]) (pc := 59) d_Mo_total_59 (by decide) rfl) ?_
    refine px (fun _ => pm_aload_n (pc := 61) d_Mo_total_61 rfl) ?_
    refine px (fun _ => pm_getf fl_Mo_13 (pc := 62) d_Mo_total_62 H.1 rfl) ?_
    refine px (fun _ => pm_iload_n (pc := 65) d_Mo_total_65 rfl) ?_
    refine px (fun _ => pm_iald (j := a) (pc := 66) d_Mo_total_66 H.2.2.1 (rfl) (ha) (by decide)) ?_
    refine px (fun _ => pm_iconst (v := 1) (pc := 67) d_Mo_total_67 rfl) ?_
    refine pxn (fun _ => pm_icmp_ne (pc := 68) (tgt := 84) d_Mo_total_68 (by decide)) (fun c_3 => ?_) (fun c_3 => absurd c_3 (by rw [t1]; exact fun q => hty ((nI_eq (a := gT S a 0) (b := 1) (by omega) (by omega)).mp q)))
    refine px (fun _ => pm_dload (pc := 84) d_Mo_total_84 rfl) ?_
    refine px (fun _ => pm_dload (pc := 86) d_Mo_total_86 rfl) ?_
    refine px (fun _ => pm_dadd (pc := 88) d_Mo_total_88 (by rw [he]; exact g_ad_n (m := k) (by omega) (g_acc_B hty k (by omega) (fun k9 hk9 => hB k9 (by omega))) (hB k (by omega)))) ?_
    refine px (fun _ => pm_dstore (lv' := [(6, .double ((FP.dadd acc (gC S a (k * 4 + j))))), (9, .double (gC S a (k * 4 + j))), (8, .int (nI k)), (5, .int (nI (gT S a 1))), (0, .ref (95)), (1, .int (nI a)), (2, .int (nI i)), (3, .int (nI j)), (4, .int (1))]) (pc := 89) d_Mo_total_89 (by decide) rfl) ?_
    refine px (fun _ => pm_iinc (x := nI k) (v := nI (k + 1)) (lv' := [(8, .int (nI (k + 1))), (6, .double ((FP.dadd acc (gC S a (k * 4 + j))))), (9, .double (gC S a (k * 4 + j))), (5, .int (nI (gT S a 1))), (0, .ref (95)), (1, .int (nI a)), (2, .int (nI i)), (3, .int (nI j)), (4, .int (1))]) (pc := 91) d_Mo_total_91 rfl (nI_1 _) (by decide) rfl) ?_
    refine px (fun _ => pm_goto (tgt := 28) (pc := 94) d_Mo_total_94 (by decide)) ?_
    refine pxd [0, 1, 3, 4, 5, 6, 7, 8] rfl ?_
    exact ih (k + 1) _ (by omega) (by rw [he]; simp only [g_acc, g_ad]; rw [if_neg hty])
set_option maxHeartbeats 1000000 in
set_option maxRecDepth 20000 in
theorem m_tot10 {l : Launch} {G : pm_G} {fi : Bool} {h : pm_H} {S : gS} {T : mS} {a i j : Nat} (hl : l.stackTraces = false) (H : mH T h) (ha : a < 20) (ta : mTb S T a) (ca : mCl S T a) (ra : g_rng S a) (hj : j < gT S a 2) (hty : ¬ gT S a 0 = 1) (hB : ∀ k, k < gT S a 1 → gB ((g_c0 S a j) k)) : pm_En l G fi fi 0 0 M_Mo_total [.ref (95), .int (nI a), .int (nI i), .int (nI j), .int (1)] h (.inl (some (.double (g_acc (gT S a 0) (g_c0 S a j) (gT S a 1)))), h) := by
  refine pm_Cn.eq (pm_Cn.of hl (by decide) (Nat.le_of_ble_eq_true rfl) ?_)
  obtain ⟨t1, t2, t3⟩ := id ta
  obtain ⟨r1, r2, r3, r4, r5⟩ := id ra
  refine px (fun _ => pm_iload (pc := 0) d_Mo_total_0 rfl) ?_
  refine pxb (fun _ => pm_if_eq (pc := 2) (tgt := 14) d_Mo_total_2 (by decide)) (fun c_1 => absurd c_1 (by decide)) (fun c_1 => ?_)
  refine px (fun _ => pm_aload_n (pc := 5) d_Mo_total_5 rfl) ?_
  refine px (fun _ => pm_getf fl_Mo_16 (pc := 6) d_Mo_total_6 H.1 rfl) ?_
  refine px (fun _ => pm_iload_n (pc := 9) d_Mo_total_9 rfl) ?_
  refine px (fun _ => pm_iald (j := a) (pc := 10) d_Mo_total_10 H.2.2.2.1 (rfl) (ha) (by decide)) ?_
  refine px (fun _ => pm_goto (tgt := 20) (pc := 11) d_Mo_total_11 (by decide)) ?_
  refine px (fun _ => pm_istore (lv' := [(5, .int (nI (mA T 2 a))), (0, .ref (95)), (1, .int (nI a)), (2, .int (nI i)), (3, .int (nI j)), (4, .int (1))]) (pc := 20) d_Mo_total_20 (by decide) rfl) ?_
  refine px (fun _ => pm_dconst0 (pc := 22) d_Mo_total_22) ?_
  refine px (fun _ => pm_dstore (lv' := [(6, .double (FP.dconst0)), (5, .int (nI (mA T 2 a))), (0, .ref (95)), (1, .int (nI a)), (2, .int (nI i)), (3, .int (nI j)), (4, .int (1))]) (pc := 23) d_Mo_total_23 (by decide) rfl) ?_
  refine px (fun _ => pm_iconst (v := 0) (pc := 25) d_Mo_total_25 rfl) ?_
  refine px (fun _ => pm_istore (lv' := [(8, .int (0)), (6, .double (FP.dconst0)), (5, .int (nI (mA T 2 a))), (0, .ref (95)), (1, .int (nI a)), (2, .int (nI i)), (3, .int (nI j)), (4, .int (1))]) (pc := 26) d_Mo_total_26 (by decide) rfl) ?_
  rw [t2]
  refine pxd [0, 1, 2, 3, 4, 5, 6, 7] rfl ?_
  exact lp_tot10 hl H ha ta ca ra hj hty hB (gT S a 1) 0 _ (by omega) rfl
set_option maxHeartbeats 1000000 in
set_option maxRecDepth 20000 in
theorem lp_fst1 {l : Launch} {G : pm_G} {fi : Bool} {h : pm_H} {S : gS} {T : mS} {a i j : Nat} (hl : l.stackTraces = false) (H : mH T h) (ha : a < 20) (ta : mTb S T a) (ca : mCl S T a) (ra : g_rng S a) (hj : j < gT S a 2) : ∀ (d k best : Nat), k + d = gT S a 1 → 1 ≤ k → best = g_fi (g_c0 S a j) (k - 1) → pm_Px l G fi fi 0 0 M_Mo_first 28 [(7, .int (nI k)), (6, .int (nI best)), (5, .int (nI (gT S a 1))), (0, .ref (95)), (1, .int (nI a)), (2, .int (nI i)), (3, .int (nI j)), (4, .int (1))] [] h (fun r => r = (.inl (some (.int (nI (g_fi (g_c0 S a j) (gT S a 1 - 1))))), h)) := by
  obtain ⟨t1, t2, t3⟩ := id ta
  obtain ⟨r1, r2, r3, r4, r5⟩ := id ra
  intro d
  induction d with
  | zero =>
    intro k best hd hk he
    obtain rfl : k = gT S a 1 := by omega
    refine px (fun _ => pm_iload (pc := 28) d_Mo_first_28 rfl) ?_
    refine px (fun _ => pm_iload (pc := 30) d_Mo_first_30 rfl) ?_
    refine pxb (fun _ => pm_icmp_ge (pc := 32) (tgt := 93) d_Mo_first_32 (by decide)) (fun c_1 => ?_) (fun c_1 => absurd ((nI_leI (a := gT S a 1) (b := gT S a 1) (by omega) (by omega)).mpr (by omega)) c_1)
    refine px (fun _ => pm_iload (pc := 93) d_Mo_first_93 rfl) ?_
    exact pxr (pm_iret (pc := 95) d_Mo_first_95 rfl rfl) (by rw [he])
  | succ d ih =>
    intro k best hd hk he
    have bl := g_fi_le (g_c0 S a j) (k - 1)
    refine px (fun _ => pm_iload (pc := 28) d_Mo_first_28 rfl) ?_
    refine px (fun _ => pm_iload (pc := 30) d_Mo_first_30 rfl) ?_
    refine pxb (fun _ => pm_icmp_ge (pc := 32) (tgt := 93) d_Mo_first_32 (by decide)) (fun c_1 => absurd c_1 (fun q => absurd ((nI_leI (a := gT S a 1) (b := k) (by omega) (by omega)).mp q) (by omega))) (fun c_1 => ?_)
    refine px (fun _ => pm_iload (pc := 35) d_Mo_first_35 rfl) ?_
    refine pxb (fun _ => pm_if_eq (pc := 37) (tgt := 63) d_Mo_first_37 (by decide)) (fun c_2 => absurd c_2 (by decide)) (fun c_2 => ?_)
    refine px (fun _ => pm_aload_n (pc := 40) d_Mo_first_40 rfl) ?_
    refine px (fun _ => pm_iload_n (pc := 41) d_Mo_first_41 rfl) ?_
    refine px (fun _ => pm_iload (pc := 42) d_Mo_first_42 rfl) ?_
    refine px (fun _ => pm_iload_n (pc := 44) d_Mo_first_44 rfl) ?_
    refine px (fun _ => k_Mo_first_45 (kc1 := 0) (ks1 := 0) (kc := 0) (ks := 0) (av := [.int (nI a), .int (nI k), .int (nI j)]) (st := []) H.1 (m_at2 hl H ha ta ca ra (by omega) (hj)) rfl rfl (Nat.le_of_ble_eq_true rfl)) ?_
    refine px (fun _ => pm_aload_n (pc := 48) d_Mo_first_48 rfl) ?_
    refine px (fun _ => pm_iload_n (pc := 49) d_Mo_first_49 rfl) ?_
    refine px (fun _ => pm_iload (pc := 50) d_Mo_first_50 rfl) ?_
    refine px (fun _ => pm_iload_n (pc := 52) d_Mo_first_52 rfl) ?_
    refine px (fun _ => k_Mo_first_53 (kc1 := 0) (ks1 := 0) (kc := 0) (ks := 0) (av := [.int (nI a), .int (nI best), .int (nI j)]) (st := [.double (gC S a (k * 4 + j))]) H.1 (m_at2 hl H ha ta ca ra (by omega) (hj)) rfl rfl (Nat.le_of_ble_eq_true rfl)) ?_
    refine px (fun _ => pm_dcmp (pc := 56) d_Mo_first_56) ?_
    refine pxb (fun _ => pm_if_le (pc := 57) (tgt := 87) d_Mo_first_57 (by decide)) (fun c_3 => ?_) (fun c_3 => ?_)
    · refine px (fun _ => pm_iinc (x := nI k) (v := nI (k + 1)) (lv' := [(7, .int (nI (k + 1))), (6, .int (nI best)), (5, .int (nI (gT S a 1))), (0, .ref (95)), (1, .int (nI a)), (2, .int (nI i)), (3, .int (nI j)), (4, .int (1))]) (pc := 87) d_Mo_first_87 rfl (nI_1 _) (by decide) rfl) ?_
      refine px (fun _ => pm_goto (tgt := 28) (pc := 90) d_Mo_first_90 (by decide)) ?_
      refine pxd [0, 1, 2, 3, 4, 5, 6, 7] rfl ?_
      exact ih (k + 1) _ (by omega) (by omega) (by rw [show k + 1 - 1 = k by omega, g_fi_s hk, ← he]; exact (if_neg (fun q => q (by assumption))).symm)
    · refine px (fun _ => pm_goto (tgt := 83) (pc := 60) d_Mo_first_60 (by decide)) ?_
      refine px (fun _ => pm_iload (pc := 83) d_Mo_first_83 rfl) ?_
      refine px (fun _ => pm_istore (lv' := [(6, .int (nI k)), (7, .int (nI k)), (5, .int (nI (gT S a 1))), (0, .ref (95)), (1, .int (nI a)), (2, .int (nI i)), (3, .int (nI j)), (4, .int (1))]) (pc := 85) d_Mo_first_85 (by decide) rfl) ?_
      refine px (fun _ => pm_iinc (x := nI k) (v := nI (k + 1)) (lv' := [(7, .int (nI (k + 1))), (6, .int (nI k)), (5, .int (nI (gT S a 1))), (0, .ref (95)), (1, .int (nI a)), (2, .int (nI i)), (3, .int (nI j)), (4, .int (1))]) (pc := 87) d_Mo_first_87 rfl (nI_1 _) (by decide) rfl) ?_
      refine px (fun _ => pm_goto (tgt := 28) (pc := 90) d_Mo_first_90 (by decide)) ?_
      refine pxd [0, 1, 2, 3, 4, 5, 6, 7] rfl ?_
      exact ih (k + 1) _ (by omega) (by omega) (by rw [show k + 1 - 1 = k by omega, g_fi_s hk, ← he]; exact (if_pos (by assumption)).symm)
set_option maxHeartbeats 1000000 in
set_option maxRecDepth 20000 in
theorem m_fst1 {l : Launch} {G : pm_G} {fi : Bool} {h : pm_H} {S : gS} {T : mS} {a i j : Nat} (hl : l.stackTraces = false) (H : mH T h) (ha : a < 20) (ta : mTb S T a) (ca : mCl S T a) (ra : g_rng S a) (hj : j < gT S a 2) : pm_En l G fi fi 0 0 M_Mo_first [.ref (95), .int (nI a), .int (nI i), .int (nI j), .int (1)] h (.inl (some (.int (nI (g_fi (g_c0 S a j) (gT S a 1 - 1))))), h) := by
  refine pm_Cn.eq (pm_Cn.of hl (by decide) (Nat.le_of_ble_eq_true rfl) ?_)
  obtain ⟨t1, t2, t3⟩ := id ta
  obtain ⟨r1, r2, r3, r4, r5⟩ := id ra
  refine px (fun _ => pm_iload (pc := 0) d_Mo_first_0 rfl) ?_
  refine pxb (fun _ => pm_if_eq (pc := 2) (tgt := 14) d_Mo_first_2 (by decide)) (fun c_1 => absurd c_1 (by decide)) (fun c_1 => ?_)
  refine px (fun _ => pm_aload_n (pc := 5) d_Mo_first_5 rfl) ?_
  refine px (fun _ => pm_getf fl_Mo_16 (pc := 6) d_Mo_first_6 H.1 rfl) ?_
  refine px (fun _ => pm_iload_n (pc := 9) d_Mo_first_9 rfl) ?_
  refine px (fun _ => pm_iald (j := a) (pc := 10) d_Mo_first_10 H.2.2.2.1 (rfl) (ha) (by decide)) ?_
  refine px (fun _ => pm_goto (tgt := 20) (pc := 11) d_Mo_first_11 (by decide)) ?_
  refine px (fun _ => pm_istore (lv' := [(5, .int (nI (mA T 2 a))), (0, .ref (95)), (1, .int (nI a)), (2, .int (nI i)), (3, .int (nI j)), (4, .int (1))]) (pc := 20) d_Mo_first_20 (by decide) rfl) ?_
  refine px (fun _ => pm_iconst (v := 0) (pc := 22) d_Mo_first_22 rfl) ?_
  refine px (fun _ => pm_istore (lv' := [(6, .int (0)), (5, .int (nI (mA T 2 a))), (0, .ref (95)), (1, .int (nI a)), (2, .int (nI i)), (3, .int (nI j)), (4, .int (1))]) (pc := 23) d_Mo_first_23 (by decide) rfl) ?_
  refine px (fun _ => pm_iconst (v := 1) (pc := 25) d_Mo_first_25 rfl) ?_
  refine px (fun _ => pm_istore (lv' := [(7, .int (1)), (6, .int (0)), (5, .int (nI (mA T 2 a))), (0, .ref (95)), (1, .int (nI a)), (2, .int (nI i)), (3, .int (nI j)), (4, .int (1))]) (pc := 26) d_Mo_first_26 (by decide) rfl) ?_
  rw [t2]
  refine pxd [0, 1, 2, 3, 4, 5, 6, 7] rfl ?_
  exact lp_fst1 hl H ha ta ca ra hj (gT S a 1 - 1) 1 0 (by omega) (by omega) rfl
set_option maxHeartbeats 1000000 in
set_option maxRecDepth 20000 in
theorem lp_tot01 {l : Launch} {G : pm_G} {fi : Bool} {h : pm_H} {S : gS} {T : mS} {a i j : Nat} (hl : l.stackTraces = false) (H : mH T h) (ha : a < 20) (ta : mTb S T a) (ca : mCl S T a) (ra : g_rng S a) (hi : i < gT S a 1) (hty : gT S a 0 = 1) : ∀ (d k : Nat) (acc : UInt64), k + d = gT S a 2 → acc = g_acc (gT S a 0) (g_c1 S a i) k → pm_Px l G fi fi 0 0 M_Mo_total 28 [(8, .int (nI k)), (6, .double (acc)), (5, .int (nI (gT S a 2))), (0, .ref (95)), (1, .int (nI a)), (2, .int (nI i)), (3, .int (nI j)), (4, .int (0))] [] h (fun r => r = (.inl (some (.double (g_acc (gT S a 0) (g_c1 S a i) (gT S a 2)))), h)) := by
  obtain ⟨t1, t2, t3⟩ := id ta
  obtain ⟨r1, r2, r3, r4, r5⟩ := id ra
  intro d
  induction d with
  | zero =>
    intro k acc hd he
    obtain rfl : k = gT S a 2 := by omega
    refine px (fun _ => pm_iload (pc := 28) d_Mo_total_28 rfl) ?_
    refine px (fun _ => pm_iload (pc := 30) d_Mo_total_30 rfl) ?_
    refine pxb (fun _ => pm_icmp_ge (pc := 32) (tgt := 97) d_Mo_total_32 (by decide)) (fun c_1 => ?_) (fun c_1 => absurd ((nI_leI (a := gT S a 2) (b := gT S a 2) (by omega) (by omega)).mpr (by omega)) c_1)
    refine px (fun _ => pm_dload (pc := 97) d_Mo_total_97 rfl) ?_
    exact pxr (pm_dret (pc := 99) d_Mo_total_99 rfl) (by rw [he])
  | succ d ih =>
    intro k acc hd he
    refine px (fun _ => pm_iload (pc := 28) d_Mo_total_28 rfl) ?_
    refine px (fun _ => pm_iload (pc := 30) d_Mo_total_30 rfl) ?_
    refine pxb (fun _ => pm_icmp_ge (pc := 32) (tgt := 97) d_Mo_total_32 (by decide)) (fun c_1 => absurd c_1 (fun q => absurd ((nI_leI (a := gT S a 2) (b := k) (by omega) (by omega)).mp q) (by omega))) (fun c_1 => ?_)
    refine px (fun _ => pm_iload (pc := 35) d_Mo_total_35 rfl) ?_
    refine pxb (fun _ => pm_if_eq (pc := 37) (tgt := 51) d_Mo_total_37 (by decide)) (fun c_2 => ?_) (fun c_2 => absurd (by decide) c_2)
    refine px (fun _ => pm_aload_n (pc := 51) d_Mo_total_51 rfl) ?_
    refine px (fun _ => pm_iload_n (pc := 52) d_Mo_total_52 rfl) ?_
    refine px (fun _ => pm_iload_n (pc := 53) d_Mo_total_53 rfl) ?_
    refine px (fun _ => pm_iload (pc := 54) d_Mo_total_54 rfl) ?_
    refine px (fun _ => k_Mo_total_56 (kc1 := 0) (ks1 := 0) (kc := 0) (ks := 0) (av := [.int (nI a), .int (nI i), .int (nI k)]) (st := []) H.1 (m_at2 hl H ha ta ca ra (hi) (by omega)) rfl rfl (Nat.le_of_ble_eq_true rfl)) ?_
    refine px (fun _ => pm_dstore (lv' := [(9, .double (gC S a (i * 4 + k))), (8, .int (nI k)), (6, .double (acc)), (5, .int (nI (gT S a 2))), (0, .ref (95)), (1, .int (nI a)), (2, .int (nI i)), (3, .int (nI j)), (4, .int (0))]) (pc := 59) d_Mo_total_59 (by decide) rfl) ?_
    refine px (fun _ => pm_aload_n (pc := 61) d_Mo_total_61 rfl) ?_
    refine px (fun _ => pm_getf fl_Mo_13 (pc := 62) d_Mo_total_62 H.1 rfl) ?_
    refine px (fun _ => pm_iload_n (pc := 65) d_Mo_total_65 rfl) ?_
    refine px (fun _ => pm_iald (j := a) (pc := 66) d_Mo_total_66 H.2.2.1 (rfl) (ha) (by decide)) ?_
    refine px (fun _ => pm_iconst (v := 1) (pc := 67) d_Mo_total_67 rfl) ?_
    refine pxn (fun _ => pm_icmp_ne (pc := 68) (tgt := 84) d_Mo_total_68 (by decide)) (fun c_3 => absurd (by rw [t1, hty]; rfl) c_3) (fun c_3 => ?_)
    refine px (fun _ => pm_dload (pc := 71) d_Mo_total_71 rfl) ?_
    refine px (fun _ => pm_d2i (pc := 73) d_Mo_total_73) ?_
    refine px (fun _ => pm_dload (pc := 74) d_Mo_total_74 rfl) ?_
    refine px (fun _ => pm_d2i (pc := 76) d_Mo_total_76) ?_
    refine px (fun _ => pm_iadd (pc := 77) d_Mo_total_77) ?_
    refine px (fun _ => pm_i2d (pc := 78) d_Mo_total_78) ?_
    refine px (fun _ => pm_dstore (lv' := [(6, .double ((FP.i2d (((FP.d2i (acc)) + (FP.d2i (gC S a (i * 4 + k)))))))), (9, .double (gC S a (i * 4 + k))), (8, .int (nI k)), (5, .int (nI (gT S a 2))), (0, .ref (95)), (1, .int (nI a)), (2, .int (nI i)), (3, .int (nI j)), (4, .int (0))]) (pc := 79) d_Mo_total_79 (by decide) rfl) ?_
    refine px (fun _ => pm_goto (tgt := 91) (pc := 81) d_Mo_total_81 (by decide)) ?_
    refine px (fun _ => pm_iinc (x := nI k) (v := nI (k + 1)) (lv' := [(8, .int (nI (k + 1))), (6, .double ((FP.i2d (((FP.d2i (acc)) + (FP.d2i (gC S a (i * 4 + k)))))))), (9, .double (gC S a (i * 4 + k))), (5, .int (nI (gT S a 2))), (0, .ref (95)), (1, .int (nI a)), (2, .int (nI i)), (3, .int (nI j)), (4, .int (0))]) (pc := 91) d_Mo_total_91 rfl (nI_1 _) (by decide) rfl) ?_
    refine px (fun _ => pm_goto (tgt := 28) (pc := 94) d_Mo_total_94 (by decide)) ?_
    refine pxd [0, 1, 3, 4, 5, 6, 7, 8] rfl ?_
    exact ih (k + 1) _ (by omega) (by rw [he]; simp only [g_acc, g_ad]; rw [if_pos hty]; rfl)
set_option maxHeartbeats 1000000 in
set_option maxRecDepth 20000 in
theorem m_tot01 {l : Launch} {G : pm_G} {fi : Bool} {h : pm_H} {S : gS} {T : mS} {a i j : Nat} (hl : l.stackTraces = false) (H : mH T h) (ha : a < 20) (ta : mTb S T a) (ca : mCl S T a) (ra : g_rng S a) (hi : i < gT S a 1) (hty : gT S a 0 = 1) : pm_En l G fi fi 0 0 M_Mo_total [.ref (95), .int (nI a), .int (nI i), .int (nI j), .int (0)] h (.inl (some (.double (g_acc (gT S a 0) (g_c1 S a i) (gT S a 2)))), h) := by
  refine pm_Cn.eq (pm_Cn.of hl (by decide) (Nat.le_of_ble_eq_true rfl) ?_)
  obtain ⟨t1, t2, t3⟩ := id ta
  obtain ⟨r1, r2, r3, r4, r5⟩ := id ra
  refine px (fun _ => pm_iload (pc := 0) d_Mo_total_0 rfl) ?_
  refine pxb (fun _ => pm_if_eq (pc := 2) (tgt := 14) d_Mo_total_2 (by decide)) (fun c_1 => ?_) (fun c_1 => absurd (by decide) c_1)
  refine px (fun _ => pm_aload_n (pc := 14) d_Mo_total_14 rfl) ?_
  refine px (fun _ => pm_getf fl_Mo_19 (pc := 15) d_Mo_total_15 H.1 rfl) ?_
  refine px (fun _ => pm_iload_n (pc := 18) d_Mo_total_18 rfl) ?_
  refine px (fun _ => pm_iald (j := a) (pc := 19) d_Mo_total_19 H.2.2.2.2.1 (rfl) (ha) (by decide)) ?_
  refine px (fun _ => pm_istore (lv' := [(5, .int (nI (mA T 3 a))), (0, .ref (95)), (1, .int (nI a)), (2, .int (nI i)), (3, .int (nI j)), (4, .int (0))]) (pc := 20) d_Mo_total_20 (by decide) rfl) ?_
  refine px (fun _ => pm_dconst0 (pc := 22) d_Mo_total_22) ?_
  refine px (fun _ => pm_dstore (lv' := [(6, .double (FP.dconst0)), (5, .int (nI (mA T 3 a))), (0, .ref (95)), (1, .int (nI a)), (2, .int (nI i)), (3, .int (nI j)), (4, .int (0))]) (pc := 23) d_Mo_total_23 (by decide) rfl) ?_
  refine px (fun _ => pm_iconst (v := 0) (pc := 25) d_Mo_total_25 rfl) ?_
  refine px (fun _ => pm_istore (lv' := [(8, .int (0)), (6, .double (FP.dconst0)), (5, .int (nI (mA T 3 a))), (0, .ref (95)), (1, .int (nI a)), (2, .int (nI i)), (3, .int (nI j)), (4, .int (0))]) (pc := 26) d_Mo_total_26 (by decide) rfl) ?_
  rw [t3]
  refine pxd [0, 1, 2, 3, 4, 5, 6, 7] rfl ?_
  exact lp_tot01 hl H ha ta ca ra hi hty (gT S a 2) 0 _ (by omega) rfl
set_option maxHeartbeats 1000000 in
set_option maxRecDepth 20000 in
theorem lp_tot00 {l : Launch} {G : pm_G} {fi : Bool} {h : pm_H} {S : gS} {T : mS} {a i j : Nat} (hl : l.stackTraces = false) (H : mH T h) (ha : a < 20) (ta : mTb S T a) (ca : mCl S T a) (ra : g_rng S a) (hi : i < gT S a 1) (hty : ¬ gT S a 0 = 1) (hB : ∀ k, k < gT S a 2 → gB ((g_c1 S a i) k)) : ∀ (d k : Nat) (acc : UInt64), k + d = gT S a 2 → acc = g_acc (gT S a 0) (g_c1 S a i) k → pm_Px l G fi fi 0 0 M_Mo_total 28 [(8, .int (nI k)), (6, .double (acc)), (5, .int (nI (gT S a 2))), (0, .ref (95)), (1, .int (nI a)), (2, .int (nI i)), (3, .int (nI j)), (4, .int (0))] [] h (fun r => r = (.inl (some (.double (g_acc (gT S a 0) (g_c1 S a i) (gT S a 2)))), h)) := by
  obtain ⟨t1, t2, t3⟩ := id ta
  obtain ⟨r1, r2, r3, r4, r5⟩ := id ra
  intro d
  induction d with
  | zero =>
    intro k acc hd he
    obtain rfl : k = gT S a 2 := by omega
    refine px (fun _ => pm_iload (pc := 28) d_Mo_total_28 rfl) ?_
    refine px (fun _ => pm_iload (pc := 30) d_Mo_total_30 rfl) ?_
    refine pxb (fun _ => pm_icmp_ge (pc := 32) (tgt := 97) d_Mo_total_32 (by decide)) (fun c_1 => ?_) (fun c_1 => absurd ((nI_leI (a := gT S a 2) (b := gT S a 2) (by omega) (by omega)).mpr (by omega)) c_1)
    refine px (fun _ => pm_dload (pc := 97) d_Mo_total_97 rfl) ?_
    exact pxr (pm_dret (pc := 99) d_Mo_total_99 rfl) (by rw [he])
  | succ d ih =>
    intro k acc hd he
    refine px (fun _ => pm_iload (pc := 28) d_Mo_total_28 rfl) ?_
    refine px (fun _ => pm_iload (pc := 30) d_Mo_total_30 rfl) ?_
    refine pxb (fun _ => pm_icmp_ge (pc := 32) (tgt := 97) d_Mo_total_32 (by decide)) (fun c_1 => absurd c_1 (fun q => absurd ((nI_leI (a := gT S a 2) (b := k) (by omega) (by omega)).mp q) (by omega))) (fun c_1 => ?_)
    refine px (fun _ => pm_iload (pc := 35) d_Mo_total_35 rfl) ?_
    refine pxb (fun _ => pm_if_eq (pc := 37) (tgt := 51) d_Mo_total_37 (by decide)) (fun c_2 => ?_) (fun c_2 => absurd (by decide) c_2)
    refine px (fun _ => pm_aload_n (pc := 51) d_Mo_total_51 rfl) ?_
    refine px (fun _ => pm_iload_n (pc := 52) d_Mo_total_52 rfl) ?_
    refine px (fun _ => pm_iload_n (pc := 53) d_Mo_total_53 rfl) ?_
    refine px (fun _ => pm_iload (pc := 54) d_Mo_total_54 rfl) ?_
    refine px (fun _ => k_Mo_total_56 (kc1 := 0) (ks1 := 0) (kc := 0) (ks := 0) (av := [.int (nI a), .int (nI i), .int (nI k)]) (st := []) H.1 (m_at2 hl H ha ta ca ra (hi) (by omega)) rfl rfl (Nat.le_of_ble_eq_true rfl)) ?_
    refine px (fun _ => pm_dstore (lv' := [(9, .double (gC S a (i * 4 + k))), (8, .int (nI k)), (6, .double (acc)), (5, .int (nI (gT S a 2))), (0, .ref (95)), (1, .int (nI a)), (2, .int (nI i)), (3, .int (nI j)), (4, .int (0))]) (pc := 59) d_Mo_total_59 (by decide) rfl) ?_
    refine px (fun _ => pm_aload_n (pc := 61) d_Mo_total_61 rfl) ?_
    refine px (fun _ => pm_getf fl_Mo_13 (pc := 62) d_Mo_total_62 H.1 rfl) ?_
    refine px (fun _ => pm_iload_n (pc := 65) d_Mo_total_65 rfl) ?_
    refine px (fun _ => pm_iald (j := a) (pc := 66) d_Mo_total_66 H.2.2.1 (rfl) (ha) (by decide)) ?_
    refine px (fun _ => pm_iconst (v := 1) (pc := 67) d_Mo_total_67 rfl) ?_
    refine pxn (fun _ => pm_icmp_ne (pc := 68) (tgt := 84) d_Mo_total_68 (by decide)) (fun c_3 => ?_) (fun c_3 => absurd c_3 (by rw [t1]; exact fun q => hty ((nI_eq (a := gT S a 0) (b := 1) (by omega) (by omega)).mp q)))
    refine px (fun _ => pm_dload (pc := 84) d_Mo_total_84 rfl) ?_
    refine px (fun _ => pm_dload (pc := 86) d_Mo_total_86 rfl) ?_
    refine px (fun _ => pm_dadd (pc := 88) d_Mo_total_88 (by rw [he]; exact g_ad_n (m := k) (by omega) (g_acc_B hty k (by omega) (fun k9 hk9 => hB k9 (by omega))) (hB k (by omega)))) ?_
    refine px (fun _ => pm_dstore (lv' := [(6, .double ((FP.dadd acc (gC S a (i * 4 + k))))), (9, .double (gC S a (i * 4 + k))), (8, .int (nI k)), (5, .int (nI (gT S a 2))), (0, .ref (95)), (1, .int (nI a)), (2, .int (nI i)), (3, .int (nI j)), (4, .int (0))]) (pc := 89) d_Mo_total_89 (by decide) rfl) ?_
    refine px (fun _ => pm_iinc (x := nI k) (v := nI (k + 1)) (lv' := [(8, .int (nI (k + 1))), (6, .double ((FP.dadd acc (gC S a (i * 4 + k))))), (9, .double (gC S a (i * 4 + k))), (5, .int (nI (gT S a 2))), (0, .ref (95)), (1, .int (nI a)), (2, .int (nI i)), (3, .int (nI j)), (4, .int (0))]) (pc := 91) d_Mo_total_91 rfl (nI_1 _) (by decide) rfl) ?_
    refine px (fun _ => pm_goto (tgt := 28) (pc := 94) d_Mo_total_94 (by decide)) ?_
    refine pxd [0, 1, 3, 4, 5, 6, 7, 8] rfl ?_
    exact ih (k + 1) _ (by omega) (by rw [he]; simp only [g_acc, g_ad]; rw [if_neg hty])
set_option maxHeartbeats 1000000 in
set_option maxRecDepth 20000 in
theorem m_tot00 {l : Launch} {G : pm_G} {fi : Bool} {h : pm_H} {S : gS} {T : mS} {a i j : Nat} (hl : l.stackTraces = false) (H : mH T h) (ha : a < 20) (ta : mTb S T a) (ca : mCl S T a) (ra : g_rng S a) (hi : i < gT S a 1) (hty : ¬ gT S a 0 = 1) (hB : ∀ k, k < gT S a 2 → gB ((g_c1 S a i) k)) : pm_En l G fi fi 0 0 M_Mo_total [.ref (95), .int (nI a), .int (nI i), .int (nI j), .int (0)] h (.inl (some (.double (g_acc (gT S a 0) (g_c1 S a i) (gT S a 2)))), h) := by
  refine pm_Cn.eq (pm_Cn.of hl (by decide) (Nat.le_of_ble_eq_true rfl) ?_)
  obtain ⟨t1, t2, t3⟩ := id ta
  obtain ⟨r1, r2, r3, r4, r5⟩ := id ra
  refine px (fun _ => pm_iload (pc := 0) d_Mo_total_0 rfl) ?_
  refine pxb (fun _ => pm_if_eq (pc := 2) (tgt := 14) d_Mo_total_2 (by decide)) (fun c_1 => ?_) (fun c_1 => absurd (by decide) c_1)
  refine px (fun _ => pm_aload_n (pc := 14) d_Mo_total_14 rfl) ?_
  refine px (fun _ => pm_getf fl_Mo_19 (pc := 15) d_Mo_total_15 H.1 rfl) ?_
  refine px (fun _ => pm_iload_n (pc := 18) d_Mo_total_18 rfl) ?_
  refine px (fun _ => pm_iald (j := a) (pc := 19) d_Mo_total_19 H.2.2.2.2.1 (rfl) (ha) (by decide)) ?_
  refine px (fun _ => pm_istore (lv' := [(5, .int (nI (mA T 3 a))), (0, .ref (95)), (1, .int (nI a)), (2, .int (nI i)), (3, .int (nI j)), (4, .int (0))]) (pc := 20) d_Mo_total_20 (by decide) rfl) ?_
  refine px (fun _ => pm_dconst0 (pc := 22) d_Mo_total_22) ?_
  refine px (fun _ => pm_dstore (lv' := [(6, .double (FP.dconst0)), (5, .int (nI (mA T 3 a))), (0, .ref (95)), (1, .int (nI a)), (2, .int (nI i)), (3, .int (nI j)), (4, .int (0))]) (pc := 23) d_Mo_total_23 (by decide) rfl) ?_
  refine px (fun _ => pm_iconst (v := 0) (pc := 25) d_Mo_total_25 rfl) ?_
  refine px (fun _ => pm_istore (lv' := [(8, .int (0)), (6, .double (FP.dconst0)), (5, .int (nI (mA T 3 a))), (0, .ref (95)), (1, .int (nI a)), (2, .int (nI i)), (3, .int (nI j)), (4, .int (0))]) (pc := 26) d_Mo_total_26 (by decide) rfl) ?_
  rw [t3]
  refine pxd [0, 1, 2, 3, 4, 5, 6, 7] rfl ?_
  exact lp_tot00 hl H ha ta ca ra hi hty hB (gT S a 2) 0 _ (by omega) rfl
set_option maxHeartbeats 1000000 in
set_option maxRecDepth 20000 in
theorem lp_fst0 {l : Launch} {G : pm_G} {fi : Bool} {h : pm_H} {S : gS} {T : mS} {a i j : Nat} (hl : l.stackTraces = false) (H : mH T h) (ha : a < 20) (ta : mTb S T a) (ca : mCl S T a) (ra : g_rng S a) (hi : i < gT S a 1) : ∀ (d k best : Nat), k + d = gT S a 2 → 1 ≤ k → best = g_fi (g_c1 S a i) (k - 1) → pm_Px l G fi fi 0 0 M_Mo_first 28 [(7, .int (nI k)), (6, .int (nI best)), (5, .int (nI (gT S a 2))), (0, .ref (95)), (1, .int (nI a)), (2, .int (nI i)), (3, .int (nI j)), (4, .int (0))] [] h (fun r => r = (.inl (some (.int (nI (g_fi (g_c1 S a i) (gT S a 2 - 1))))), h)) := by
  obtain ⟨t1, t2, t3⟩ := id ta
  obtain ⟨r1, r2, r3, r4, r5⟩ := id ra
  intro d
  induction d with
  | zero =>
    intro k best hd hk he
    obtain rfl : k = gT S a 2 := by omega
    refine px (fun _ => pm_iload (pc := 28) d_Mo_first_28 rfl) ?_
    refine px (fun _ => pm_iload (pc := 30) d_Mo_first_30 rfl) ?_
    refine pxb (fun _ => pm_icmp_ge (pc := 32) (tgt := 93) d_Mo_first_32 (by decide)) (fun c_1 => ?_) (fun c_1 => absurd ((nI_leI (a := gT S a 2) (b := gT S a 2) (by omega) (by omega)).mpr (by omega)) c_1)
    refine px (fun _ => pm_iload (pc := 93) d_Mo_first_93 rfl) ?_
    exact pxr (pm_iret (pc := 95) d_Mo_first_95 rfl rfl) (by rw [he])
  | succ d ih =>
    intro k best hd hk he
    have bl := g_fi_le (g_c1 S a i) (k - 1)
    refine px (fun _ => pm_iload (pc := 28) d_Mo_first_28 rfl) ?_
    refine px (fun _ => pm_iload (pc := 30) d_Mo_first_30 rfl) ?_
    refine pxb (fun _ => pm_icmp_ge (pc := 32) (tgt := 93) d_Mo_first_32 (by decide)) (fun c_1 => absurd c_1 (fun q => absurd ((nI_leI (a := gT S a 2) (b := k) (by omega) (by omega)).mp q) (by omega))) (fun c_1 => ?_)
    refine px (fun _ => pm_iload (pc := 35) d_Mo_first_35 rfl) ?_
    refine pxb (fun _ => pm_if_eq (pc := 37) (tgt := 63) d_Mo_first_37 (by decide)) (fun c_2 => ?_) (fun c_2 => absurd (by decide) c_2)
    refine px (fun _ => pm_aload_n (pc := 63) d_Mo_first_63 rfl) ?_
    refine px (fun _ => pm_iload_n (pc := 64) d_Mo_first_64 rfl) ?_
    refine px (fun _ => pm_iload_n (pc := 65) d_Mo_first_65 rfl) ?_
    refine px (fun _ => pm_iload (pc := 66) d_Mo_first_66 rfl) ?_
    refine px (fun _ => k_Mo_first_68 (kc1 := 0) (ks1 := 0) (kc := 0) (ks := 0) (av := [.int (nI a), .int (nI i), .int (nI k)]) (st := []) H.1 (m_at2 hl H ha ta ca ra (hi) (by omega)) rfl rfl (Nat.le_of_ble_eq_true rfl)) ?_
    refine px (fun _ => pm_aload_n (pc := 71) d_Mo_first_71 rfl) ?_
    refine px (fun _ => pm_iload_n (pc := 72) d_Mo_first_72 rfl) ?_
    refine px (fun _ => pm_iload_n (pc := 73) d_Mo_first_73 rfl) ?_
    refine px (fun _ => pm_iload (pc := 74) d_Mo_first_74 rfl) ?_
    refine px (fun _ => k_Mo_first_76 (kc1 := 0) (ks1 := 0) (kc := 0) (ks := 0) (av := [.int (nI a), .int (nI i), .int (nI best)]) (st := [.double (gC S a (i * 4 + k))]) H.1 (m_at2 hl H ha ta ca ra (hi) (by omega)) rfl rfl (Nat.le_of_ble_eq_true rfl)) ?_
    refine px (fun _ => pm_dcmp (pc := 79) d_Mo_first_79) ?_
    refine pxb (fun _ => pm_if_le (pc := 80) (tgt := 87) d_Mo_first_80 (by decide)) (fun c_3 => ?_) (fun c_3 => ?_)
    · refine px (fun _ => pm_iinc (x := nI k) (v := nI (k + 1)) (lv' := [(7, .int (nI (k + 1))), (6, .int (nI best)), (5, .int (nI (gT S a 2))), (0, .ref (95)), (1, .int (nI a)), (2, .int (nI i)), (3, .int (nI j)), (4, .int (0))]) (pc := 87) d_Mo_first_87 rfl (nI_1 _) (by decide) rfl) ?_
      refine px (fun _ => pm_goto (tgt := 28) (pc := 90) d_Mo_first_90 (by decide)) ?_
      refine pxd [0, 1, 2, 3, 4, 5, 6, 7] rfl ?_
      exact ih (k + 1) _ (by omega) (by omega) (by rw [show k + 1 - 1 = k by omega, g_fi_s hk, ← he]; exact (if_neg (fun q => q (by assumption))).symm)
    · refine px (fun _ => pm_iload (pc := 83) d_Mo_first_83 rfl) ?_
      refine px (fun _ => pm_istore (lv' := [(6, .int (nI k)), (7, .int (nI k)), (5, .int (nI (gT S a 2))), (0, .ref (95)), (1, .int (nI a)), (2, .int (nI i)), (3, .int (nI j)), (4, .int (0))]) (pc := 85) d_Mo_first_85 (by decide) rfl) ?_
      refine px (fun _ => pm_iinc (x := nI k) (v := nI (k + 1)) (lv' := [(7, .int (nI (k + 1))), (6, .int (nI k)), (5, .int (nI (gT S a 2))), (0, .ref (95)), (1, .int (nI a)), (2, .int (nI i)), (3, .int (nI j)), (4, .int (0))]) (pc := 87) d_Mo_first_87 rfl (nI_1 _) (by decide) rfl) ?_
      refine px (fun _ => pm_goto (tgt := 28) (pc := 90) d_Mo_first_90 (by decide)) ?_
      refine pxd [0, 1, 2, 3, 4, 5, 6, 7] rfl ?_
      exact ih (k + 1) _ (by omega) (by omega) (by rw [show k + 1 - 1 = k by omega, g_fi_s hk, ← he]; exact (if_pos (by assumption)).symm)
set_option maxHeartbeats 1000000 in
set_option maxRecDepth 20000 in
theorem m_fst0 {l : Launch} {G : pm_G} {fi : Bool} {h : pm_H} {S : gS} {T : mS} {a i j : Nat} (hl : l.stackTraces = false) (H : mH T h) (ha : a < 20) (ta : mTb S T a) (ca : mCl S T a) (ra : g_rng S a) (hi : i < gT S a 1) : pm_En l G fi fi 0 0 M_Mo_first [.ref (95), .int (nI a), .int (nI i), .int (nI j), .int (0)] h (.inl (some (.int (nI (g_fi (g_c1 S a i) (gT S a 2 - 1))))), h) := by
  refine pm_Cn.eq (pm_Cn.of hl (by decide) (Nat.le_of_ble_eq_true rfl) ?_)
  obtain ⟨t1, t2, t3⟩ := id ta
  obtain ⟨r1, r2, r3, r4, r5⟩ := id ra
  refine px (fun _ => pm_iload (pc := 0) d_Mo_first_0 rfl) ?_
  refine pxb (fun _ => pm_if_eq (pc := 2) (tgt := 14) d_Mo_first_2 (by decide)) (fun c_1 => ?_) (fun c_1 => absurd (by decide) c_1)
  refine px (fun _ => pm_aload_n (pc := 14) d_Mo_first_14 rfl) ?_
  refine px (fun _ => pm_getf fl_Mo_19 (pc := 15) d_Mo_first_15 H.1 rfl) ?_
  refine px (fun _ => pm_iload_n (pc := 18) d_Mo_first_18 rfl) ?_
  refine px (fun _ => pm_iald (j := a) (pc := 19) d_Mo_first_19 H.2.2.2.2.1 (rfl) (ha) (by decide)) ?_
  refine px (fun _ => pm_istore (lv' := [(5, .int (nI (mA T 3 a))), (0, .ref (95)), (1, .int (nI a)), (2, .int (nI i)), (3, .int (nI j)), (4, .int (0))]) (pc := 20) d_Mo_first_20 (by decide) rfl) ?_
  refine px (fun _ => pm_iconst (v := 0) (pc := 22) d_Mo_first_22 rfl) ?_
  refine px (fun _ => pm_istore (lv' := [(6, .int (0)), (5, .int (nI (mA T 3 a))), (0, .ref (95)), (1, .int (nI a)), (2, .int (nI i)), (3, .int (nI j)), (4, .int (0))]) (pc := 23) d_Mo_first_23 (by decide) rfl) ?_
  refine px (fun _ => pm_iconst (v := 1) (pc := 25) d_Mo_first_25 rfl) ?_
  refine px (fun _ => pm_istore (lv' := [(7, .int (1)), (6, .int (0)), (5, .int (nI (mA T 3 a))), (0, .ref (95)), (1, .int (nI a)), (2, .int (nI i)), (3, .int (nI j)), (4, .int (0))]) (pc := 26) d_Mo_first_26 (by decide) rfl) ?_
  rw [t3]
  refine pxd [0, 1, 2, 3, 4, 5, 6, 7] rfl ?_
  exact lp_fst0 hl H ha ta ca ra hi (gT S a 2 - 1) 1 0 (by omega) (by omega) rfl
set_option maxHeartbeats 1000000 in
set_option maxRecDepth 20000 in
theorem lp_prd {l : Launch} {G : pm_G} {fi : Bool} {h : pm_H} {S : gS} {T : mS} {a b i j : Nat} (hl : l.stackTraces = false) (H : mH T h) (ha : a < 20) (ta : mTb S T a) (ca : mCl S T a) (ra : g_rng S a) (hb : b < 20) (cb : mCl S T b) (rb : g_rng S b) (sh : gT S a 2 = gT S b 1) (hi : i < gT S a 1) (hj : j < gT S b 2) (hBa : ∀ k, k < gT S a 2 → gB (gC S a (i * 4 + k))) (hBb : ∀ k, k < gT S a 2 → gB (gC S b (k * 4 + j))) : ∀ (d k : Nat) (acc : UInt64), k + d = gT S a 2 → acc.toNat % 2 ^ 63 < (1090 + 2 * k) * 2 ^ 52 → pm_Px l G fi fi 0 0 M_Mo_product 6 [(7, .int (nI k)), (5, .double (acc)), (0, .ref (95)), (1, .int (nI a)), (2, .int (nI b)), (3, .int (nI i)), (4, .int (nI j))] [] h (fun r => r = (.inl (some (.double (g_dot (fun k => gC S a (i * 4 + k)) (fun k => gC S b (k * 4 + j)) d k acc))), h)) := by
  obtain ⟨t1, t2, t3⟩ := id ta
  obtain ⟨r1, r2, r3, r4, r5⟩ := id ra
  obtain ⟨s1, s2, s3, s4, s5⟩ := id rb
  intro d
  induction d with
  | zero =>
    intro k acc hd hB
    obtain rfl : k = gT S a 2 := by omega
    refine px (fun _ => pm_iload (pc := 6) d_Mo_product_6 rfl) ?_
    refine px (fun _ => pm_aload_n (pc := 8) d_Mo_product_8 rfl) ?_
    refine px (fun _ => pm_getf fl_Mo_19 (pc := 9) d_Mo_product_9 H.1 rfl) ?_
    refine px (fun _ => pm_iload_n (pc := 12) d_Mo_product_12 rfl) ?_
    refine px (fun _ => pm_iald (j := a) (pc := 13) d_Mo_product_13 H.2.2.2.2.1 (rfl) (ha) (by decide)) ?_
    refine pxb (fun _ => pm_icmp_ge (pc := 14) (tgt := 62) d_Mo_product_14 (by decide)) (fun c_1 => ?_) (fun c_1 => absurd (by rw [t3]; exact (nI_leI (a := gT S a 2) (b := gT S a 2) (by omega) (by omega)).mpr (by omega)) c_1)
    refine px (fun _ => pm_dload (pc := 62) d_Mo_product_62 rfl) ?_
    exact pxr (pm_dret (pc := 64) d_Mo_product_64 rfl) (rfl)
  | succ d ih =>
    intro k acc hd hB
    have nn := g_dot_ok (k := k) (by omega) hB (hBa k (by omega)) (hBb k (by omega))
    refine px (fun _ => pm_iload (pc := 6) d_Mo_product_6 rfl) ?_
    refine px (fun _ => pm_aload_n (pc := 8) d_Mo_product_8 rfl) ?_
    refine px (fun _ => pm_getf fl_Mo_19 (pc := 9) d_Mo_product_9 H.1 rfl) ?_
    refine px (fun _ => pm_iload_n (pc := 12) d_Mo_product_12 rfl) ?_
    refine px (fun _ => pm_iald (j := a) (pc := 13) d_Mo_product_13 H.2.2.2.2.1 (rfl) (ha) (by decide)) ?_
    refine pxb (fun _ => pm_icmp_ge (pc := 14) (tgt := 62) d_Mo_product_14 (by decide)) (fun c_1 => absurd c_1 (by rw [t3]; exact fun q => absurd ((nI_leI (a := gT S a 2) (b := k) (by omega) (by omega)).mp q) (by omega))) (fun c_1 => ?_)
    refine px (fun _ => pm_dload (pc := 17) d_Mo_product_17 rfl) ?_
    refine px (fun _ => pm_aload_n (pc := 19) d_Mo_product_19 rfl) ?_
    refine px (fun _ => pm_getf fl_Mo_25 (pc := 20) d_Mo_product_20 H.1 rfl) ?_
    refine px (fun _ => pm_iload_n (pc := 23) d_Mo_product_23 rfl) ?_
    refine px (fun _ => pm_bipush (v := 16) (pc := 24) d_Mo_product_24 rfl) ?_
    refine px (fun _ => pm_imulN (a := a) (b := 16) (pc := 26) d_Mo_product_26) ?_
    refine px (fun _ => pm_iload_n (pc := 27) d_Mo_product_27 rfl) ?_
    refine px (fun _ => pm_iconst (v := 4) (pc := 28) d_Mo_product_28 rfl) ?_
    refine px (fun _ => pm_imulN (a := i) (b := 4) (pc := 29) d_Mo_product_29) ?_
    refine px (fun _ => pm_iaddN (a := (a * 16)) (b := (i * 4)) (pc := 30) d_Mo_product_30) ?_
    refine px (fun _ => pm_iload (pc := 31) d_Mo_product_31 rfl) ?_
    refine px (fun _ => pm_iaddN (a := ((a * 16) + (i * 4))) (b := k) (pc := 33) d_Mo_product_33) ?_
    refine px (fun _ => pm_dald (j := ((a * 16) + (i * 4)) + k) (pc := 34) d_Mo_product_34 H.2.2.2.2.2.2.1 (rfl) (by omega) (by decide)) ?_
    rw [ca i k (by omega) (by omega)]
    refine px (fun _ => pm_aload_n (pc := 35) d_Mo_product_35 rfl) ?_
    refine px (fun _ => pm_getf fl_Mo_25 (pc := 36) d_Mo_product_36 H.1 rfl) ?_
    refine px (fun _ => pm_iload_n (pc := 39) d_Mo_product_39 rfl) ?_
    refine px (fun _ => pm_bipush (v := 16) (pc := 40) d_Mo_product_40 rfl) ?_
    refine px (fun _ => pm_imulN (a := b) (b := 16) (pc := 42) d_Mo_product_42) ?_
    refine px (fun _ => pm_iload (pc := 43) d_Mo_product_43 rfl) ?_
    refine px (fun _ => pm_iconst (v := 4) (pc := 45) d_Mo_product_45 rfl) ?_
    refine px (fun _ => pm_imulN (a := k) (b := 4) (pc := 46) d_Mo_product_46) ?_
    refine px (fun _ => pm_iaddN (a := (b * 16)) (b := (k * 4)) (pc := 47) d_Mo_product_47) ?_
    refine px (fun _ => pm_iload (pc := 48) d_Mo_product_48 rfl) ?_
    refine px (fun _ => pm_iaddN (a := ((b * 16) + (k * 4))) (b := j) (pc := 50) d_Mo_product_50) ?_
    refine px (fun _ => pm_dald (j := ((b * 16) + (k * 4)) + j) (pc := 51) d_Mo_product_51 H.2.2.2.2.2.2.1 (rfl) (by omega) (by decide)) ?_
    rw [cb k j (by omega) (by omega)]
    refine px (fun _ => pm_dmul (pc := 52) d_Mo_product_52 (nn.1)) ?_
    refine px (fun _ => pm_dadd (pc := 53) d_Mo_product_53 (nn.2.1)) ?_
    refine px (fun _ => pm_dstore (lv' := [(5, .double ((FP.dadd acc (FP.dmul (gC S a (i * 4 + k)) (gC S b (k * 4 + j)))))), (7, .int (nI k)), (0, .ref (95)), (1, .int (nI a)), (2, .int (nI b)), (3, .int (nI i)), (4, .int (nI j))]) (pc := 54) d_Mo_product_54 (by decide) rfl) ?_
    refine px (fun _ => pm_iinc (x := nI k) (v := nI (k + 1)) (lv' := [(7, .int (nI (k + 1))), (5, .double ((FP.dadd acc (FP.dmul (gC S a (i * 4 + k)) (gC S b (k * 4 + j)))))), (0, .ref (95)), (1, .int (nI a)), (2, .int (nI b)), (3, .int (nI i)), (4, .int (nI j))]) (pc := 56) d_Mo_product_56 rfl (nI_1 _) (by decide) rfl) ?_
    refine px (fun _ => pm_goto (tgt := 6) (pc := 59) d_Mo_product_59 (by decide)) ?_
    refine pxd [0, 1, 2, 3, 4, 5, 6] rfl ?_
    exact ih (k + 1) _ (by omega) nn.2.2
set_option maxHeartbeats 1000000 in
set_option maxRecDepth 20000 in
theorem m_prd {l : Launch} {G : pm_G} {fi : Bool} {h : pm_H} {S : gS} {T : mS} {a b i j : Nat} (hl : l.stackTraces = false) (H : mH T h) (ha : a < 20) (ta : mTb S T a) (ca : mCl S T a) (ra : g_rng S a) (hb : b < 20) (cb : mCl S T b) (rb : g_rng S b) (sh : gT S a 2 = gT S b 1) (hi : i < gT S a 1) (hj : j < gT S b 2) (hBa : ∀ k, k < gT S a 2 → gB (gC S a (i * 4 + k))) (hBb : ∀ k, k < gT S a 2 → gB (gC S b (k * 4 + j))) : pm_En l G fi fi 0 0 M_Mo_product [.ref (95), .int (nI a), .int (nI b), .int (nI i), .int (nI j)] h (.inl (some (.double (g_dot (fun k => gC S a (i * 4 + k)) (fun k => gC S b (k * 4 + j)) (gT S a 2) 0 FP.dconst0))), h) := by
  refine pm_Cn.eq (pm_Cn.of hl (by decide) (Nat.le_of_ble_eq_true rfl) ?_)
  obtain ⟨t1, t2, t3⟩ := id ta
  obtain ⟨r1, r2, r3, r4, r5⟩ := id ra
  obtain ⟨s1, s2, s3, s4, s5⟩ := id rb
  refine px (fun _ => pm_dconst0 (pc := 0) d_Mo_product_0) ?_
  refine px (fun _ => pm_dstore (lv' := [(5, .double (FP.dconst0)), (0, .ref (95)), (1, .int (nI a)), (2, .int (nI b)), (3, .int (nI i)), (4, .int (nI j))]) (pc := 1) d_Mo_product_1 (by decide) rfl) ?_
  refine px (fun _ => pm_iconst (v := 0) (pc := 3) d_Mo_product_3 rfl) ?_
  refine px (fun _ => pm_istore (lv' := [(7, .int (0)), (5, .double (FP.dconst0)), (0, .ref (95)), (1, .int (nI a)), (2, .int (nI b)), (3, .int (nI i)), (4, .int (nI j))]) (pc := 4) d_Mo_product_4 (by decide) rfl) ?_
  refine pxd [0, 1, 2, 3, 4, 5, 6] rfl ?_
  exact lp_prd hl H ha ta ca ra hb cb rb sh hi hj hBa hBb (gT S a 2) 0 _ (by omega) (by decide)
set_option maxHeartbeats 1000000 in
set_option maxRecDepth 20000 in
theorem lp_sld {l : Launch} {G : pm_G} {fi : Bool} {h : pm_H} {S : gS} {T : mS} {n a b i j p q : Nat} (hl : l.stackTraces = false) (H : mH T h) (hn : n < 14) (ha : a < 20) (ta : mTb S T a) (ca : mCl S T a) (ra : g_rng S a) (hb : b < 20) (tb : mTb S T b) (cb : mCl S T b) (rb : g_rng S b) (hp : mQ T 8 n = nI p) (hq : mQ T 9 n = nI q) (p2 : p ≤ 2) (q2 : q ≤ 2) (hi : i < gT S a 1) (hj4 : j < 4) (hb1 : 1 ≤ gT S b 1) (hBa : ∀ k, k < gT S a 2 → gB (gC S a (i * 4 + k))) (hBb : ∀ k, k < gT S b 2 → gB (gC S b (0 * 4 + k))) : ∀ (d k : Nat) (acc : UInt64), k + d = gT S b 2 → acc.toNat % 2 ^ 63 < (1090 + 2 * k) * 2 ^ 52 → pm_Px l G fi fi 0 0 M_Mo_slid 6 [(8, .int (nI k)), (6, .double (acc)), (0, .ref (95)), (1, .int (nI n)), (2, .int (nI a)), (3, .int (nI b)), (4, .int (nI i)), (5, .int (nI j))] [] h (fun r => r = (.inl (some (.double (g_dot (fun k => if q ≤ j * p + k ∧ j * p + k - q < gT S a 2 then gC S a (i * 4 + (j * p + k - q)) else FP.dconst0) (fun k => gC S b (0 * 4 + k)) d k acc))), h)) := by
  obtain ⟨t1, t2, t3⟩ := id ta
  obtain ⟨r1, r2, r3, r4, r5⟩ := id ra
  obtain ⟨s1, s2, s3, s4, s5⟩ := id rb
  obtain ⟨u1, u2, u3⟩ := id tb
  intro d
  induction d with
  | zero =>
    intro k acc hd hB
    obtain rfl : k = gT S b 2 := by omega
    refine px (fun _ => pm_iload (pc := 6) d_Mo_slid_6 rfl) ?_
    refine px (fun _ => pm_aload_n (pc := 8) d_Mo_slid_8 rfl) ?_
    refine px (fun _ => pm_getf fl_Mo_19 (pc := 9) d_Mo_slid_9 H.1 rfl) ?_
    refine px (fun _ => pm_iload_n (pc := 12) d_Mo_slid_12 rfl) ?_
    refine px (fun _ => pm_iald (j := b) (pc := 13) d_Mo_slid_13 H.2.2.2.2.1 (rfl) (hb) (by decide)) ?_
    refine pxb (fun _ => pm_icmp_ge (pc := 14) (tgt := 91) d_Mo_slid_14 (by decide)) (fun c_1 => ?_) (fun c_1 => absurd (by rw [u3]; exact (nI_leI (a := gT S b 2) (b := gT S b 2) (by omega) (by omega)).mpr (by omega)) c_1)
    refine px (fun _ => pm_dload (pc := 91) d_Mo_slid_91 rfl) ?_
    exact pxr (pm_dret (pc := 93) d_Mo_slid_93 rfl) (rfl)
  | succ d ih =>
    intro k acc hd hB
    have jp : j * p ≤ 6 := Nat.le_trans (Nat.mul_le_mul (show j ≤ 3 by omega) p2) (by omega)
    have gX : gB ((fun k => if q ≤ j * p + k ∧ j * p + k - q < gT S a 2 then gC S a (i * 4 + (j * p + k - q)) else FP.dconst0) k) := by
      dsimp only
      split
      · exact hBa _ (by omega)
      · exact g_B0
    have nn := g_dot_ok (k := k) (by omega) hB gX (hBb k (by omega))
    refine px (fun _ => pm_iload (pc := 6) d_Mo_slid_6 rfl) ?_
    refine px (fun _ => pm_aload_n (pc := 8) d_Mo_slid_8 rfl) ?_
    refine px (fun _ => pm_getf fl_Mo_19 (pc := 9) d_Mo_slid_9 H.1 rfl) ?_
    refine px (fun _ => pm_iload_n (pc := 12) d_Mo_slid_12 rfl) ?_
    refine px (fun _ => pm_iald (j := b) (pc := 13) d_Mo_slid_13 H.2.2.2.2.1 (rfl) (hb) (by decide)) ?_
    refine pxb (fun _ => pm_icmp_ge (pc := 14) (tgt := 91) d_Mo_slid_14 (by decide)) (fun c_1 => absurd c_1 (by rw [u3]; exact fun q => absurd ((nI_leI (a := gT S b 2) (b := k) (by omega) (by omega)).mp q) (by omega))) (fun c_1 => ?_)
    refine px (fun _ => pm_iload (pc := 17) d_Mo_slid_17 rfl) ?_
    refine px (fun _ => pm_aload_n (pc := 19) d_Mo_slid_19 rfl) ?_
    refine px (fun _ => pm_getf fl_Mo_35 (pc := 20) d_Mo_slid_20 H.1 rfl) ?_
    refine px (fun _ => pm_iload_n (pc := 23) d_Mo_slid_23 rfl) ?_
    refine px (fun _ => pm_iald (j := n) (pc := 24) d_Mo_slid_24 H.2.2.2.2.2.2.2.2.2.1 (rfl) (hn) (by decide)) ?_
    rw [hp]
    refine px (fun _ => pm_imulN (a := j) (b := p) (pc := 25) d_Mo_slid_25) ?_
    refine px (fun _ => pm_iload (pc := 26) d_Mo_slid_26 rfl) ?_
    refine px (fun _ => pm_iaddN (a := (j * p)) (b := k) (pc := 28) d_Mo_slid_28) ?_
    refine px (fun _ => pm_aload_n (pc := 29) d_Mo_slid_29 rfl) ?_
    refine px (fun _ => pm_getf fl_Mo_38 (pc := 30) d_Mo_slid_30 H.1 rfl) ?_
    refine px (fun _ => pm_iload_n (pc := 33) d_Mo_slid_33 rfl) ?_
    refine px (fun _ => pm_iald (j := n) (pc := 34) d_Mo_slid_34 H.2.2.2.2.2.2.2.2.2.2.1 (rfl) (hn) (by decide)) ?_
    rw [hq]
    by_cases hq9 : q ≤ j * p + k
    · skip
      refine px (fun _ => pm_isubN (a := ((j * p) + k)) (b := q) (pc := 35) d_Mo_slid_35 (hq9)) ?_
      refine px (fun _ => pm_istore (lv' := [(9, .int (nI (((j * p) + k) - q))), (8, .int (nI k)), (6, .double (acc)), (0, .ref (95)), (1, .int (nI n)), (2, .int (nI a)), (3, .int (nI b)), (4, .int (nI i)), (5, .int (nI j))]) (pc := 36) d_Mo_slid_36 (by decide) rfl) ?_
      refine px (fun _ => pm_iload (pc := 38) d_Mo_slid_38 rfl) ?_
      refine pxb (fun _ => pm_if_lt (pc := 40) (tgt := 54) d_Mo_slid_40 (by decide)) (fun c_2 => absurd c_2 (nI_pos (by omega))) (fun c_2 => ?_)
      refine px (fun _ => pm_iload (pc := 43) d_Mo_slid_43 rfl) ?_
      refine px (fun _ => pm_aload_n (pc := 45) d_Mo_slid_45 rfl) ?_
      refine px (fun _ => pm_getf fl_Mo_19 (pc := 46) d_Mo_slid_46 H.1 rfl) ?_
      refine px (fun _ => pm_iload_n (pc := 49) d_Mo_slid_49 rfl) ?_
      refine px (fun _ => pm_iald (j := a) (pc := 50) d_Mo_slid_50 H.2.2.2.2.1 (rfl) (ha) (by decide)) ?_
      refine pxb (fun _ => pm_icmp_lt (pc := 51) (tgt := 58) d_Mo_slid_51 (by decide)) (fun c_3 => ?_) (fun c_3 => ?_)
      · have n_c_3 : (((j * p) + k) - q) < (mA T 3 a) := (nI_ltI (a := (((j * p) + k) - q)) (b := (mA T 3 a)) (by omega) (by omega)).mp c_3
        refine px (fun _ => pm_aload_n (pc := 58) d_Mo_slid_58 rfl) ?_
        refine px (fun _ => pm_iload_n (pc := 59) d_Mo_slid_59 rfl) ?_
        refine px (fun _ => pm_iload (pc := 60) d_Mo_slid_60 rfl) ?_
        refine px (fun _ => pm_iload (pc := 62) d_Mo_slid_62 rfl) ?_
        refine px (fun _ => k_Mo_slid_64 (kc1 := 0) (ks1 := 0) (kc := 0) (ks := 0) (av := [.int (nI a), .int (nI i), .int (nI (((j * p) + k) - q))]) (st := []) H.1 (m_at2 hl H ha ta ca ra hi (by omega)) rfl rfl (Nat.le_of_ble_eq_true rfl)) ?_
        refine px (fun _ => pm_dstore (lv' := [(10, .double (gC S a (i * 4 + (j * p + k - q)))), (9, .int (nI (((j * p) + k) - q))), (8, .int (nI k)), (6, .double (acc)), (0, .ref (95)), (1, .int (nI n)), (2, .int (nI a)), (3, .int (nI b)), (4, .int (nI i)), (5, .int (nI j))]) (pc := 67) d_Mo_slid_67 (by decide) rfl) ?_
        have eX : (fun k => if q ≤ j * p + k ∧ j * p + k - q < gT S a 2 then gC S a (i * 4 + (j * p + k - q)) else FP.dconst0) k = gC S a (i * 4 + (j * p + k - q)) := if_pos (by omega)
        refine px (fun _ => pm_dload (pc := 69) d_Mo_slid_69 rfl) ?_
        refine px (fun _ => pm_dload (pc := 71) d_Mo_slid_71 rfl) ?_
        refine px (fun _ => pm_aload_n (pc := 73) d_Mo_slid_73 rfl) ?_
        refine px (fun _ => pm_iload_n (pc := 74) d_Mo_slid_74 rfl) ?_
        refine px (fun _ => pm_iconst (v := 0) (pc := 75) d_Mo_slid_75 rfl) ?_
        refine px (fun _ => pm_iload (pc := 76) d_Mo_slid_76 rfl) ?_
        refine px (fun _ => k_Mo_slid_78 (kc1 := 0) (ks1 := 0) (kc := 0) (ks := 0) (av := [.int (nI b), .int (0), .int (nI k)]) (st := [.double (gC S a (i * 4 + (j * p + k - q))), .double (acc)]) H.1 (m_at2 (i := 0) hl H hb tb cb rb (by omega) (by omega)) rfl rfl (Nat.le_of_ble_eq_true rfl)) ?_
        refine px (fun _ => pm_dmul (pc := 81) d_Mo_slid_81 (by rw [← eX]; exact nn.1)) ?_
        refine px (fun _ => pm_dadd (pc := 82) d_Mo_slid_82 (by rw [← eX]; exact nn.2.1)) ?_
        refine px (fun _ => pm_dstore (lv' := [(6, .double ((FP.dadd acc (FP.dmul (gC S a (i * 4 + (j * p + k - q))) (gC S b (0 * 4 + k)))))), (10, .double (gC S a (i * 4 + (j * p + k - q)))), (9, .int (nI (((j * p) + k) - q))), (8, .int (nI k)), (0, .ref (95)), (1, .int (nI n)), (2, .int (nI a)), (3, .int (nI b)), (4, .int (nI i)), (5, .int (nI j))]) (pc := 83) d_Mo_slid_83 (by decide) rfl) ?_
        refine px (fun _ => pm_iinc (x := nI k) (v := nI (k + 1)) (lv' := [(8, .int (nI (k + 1))), (6, .double ((FP.dadd acc (FP.dmul (gC S a (i * 4 + (j * p + k - q))) (gC S b (0 * 4 + k)))))), (10, .double (gC S a (i * 4 + (j * p + k - q)))), (9, .int (nI (((j * p) + k) - q))), (0, .ref (95)), (1, .int (nI n)), (2, .int (nI a)), (3, .int (nI b)), (4, .int (nI i)), (5, .int (nI j))]) (pc := 85) d_Mo_slid_85 rfl (nI_1 _) (by decide) rfl) ?_
        refine px (fun _ => pm_goto (tgt := 6) (pc := 88) d_Mo_slid_88 (by decide)) ?_
        refine pxd [0, 1, 4, 5, 6, 7, 8, 9] rfl ?_
        have e9 : g_dot (fun k => if q ≤ j * p + k ∧ j * p + k - q < gT S a 2 then gC S a (i * 4 + (j * p + k - q)) else FP.dconst0) (fun k => gC S b (0 * 4 + k)) (d + 1) k acc = g_dot (fun k => if q ≤ j * p + k ∧ j * p + k - q < gT S a 2 then gC S a (i * 4 + (j * p + k - q)) else FP.dconst0) (fun k => gC S b (0 * 4 + k)) d (k + 1) (FP.dadd acc (FP.dmul (gC S a (i * 4 + (j * p + k - q))) (gC S b (0 * 4 + k)))) := by { show g_dot (fun k => if q ≤ j * p + k ∧ j * p + k - q < gT S a 2 then gC S a (i * 4 + (j * p + k - q)) else FP.dconst0) (fun k => gC S b (0 * 4 + k)) d (k + 1) (FP.dadd acc (FP.dmul ((fun k => if q ≤ j * p + k ∧ j * p + k - q < gT S a 2 then gC S a (i * 4 + (j * p + k - q)) else FP.dconst0) k) (gC S b (0 * 4 + k)))) = _; rw [eX] }
        rw [e9]
        exact ih (k + 1) _ (by omega) (by rw [← eX]; exact nn.2.2)
      · have n_c_3 : ¬ ((((j * p) + k) - q) < (mA T 3 a)) := fun zq => c_3 ((nI_ltI (a := (((j * p) + k) - q)) (b := (mA T 3 a)) (by omega) (by omega)).mpr zq)
        refine px (fun _ => pm_dconst0 (pc := 54) d_Mo_slid_54) ?_
        refine px (fun _ => pm_goto (tgt := 67) (pc := 55) d_Mo_slid_55 (by decide)) ?_
        refine px (fun _ => pm_dstore (lv' := [(10, .double (FP.dconst0)), (9, .int (nI (((j * p) + k) - q))), (8, .int (nI k)), (6, .double (acc)), (0, .ref (95)), (1, .int (nI n)), (2, .int (nI a)), (3, .int (nI b)), (4, .int (nI i)), (5, .int (nI j))]) (pc := 67) d_Mo_slid_67 (by decide) rfl) ?_
        have eX : (fun k => if q ≤ j * p + k ∧ j * p + k - q < gT S a 2 then gC S a (i * 4 + (j * p + k - q)) else FP.dconst0) k = FP.dconst0 := if_neg (by omega)
        refine px (fun _ => pm_dload (pc := 69) d_Mo_slid_69 rfl) ?_
        refine px (fun _ => pm_dload (pc := 71) d_Mo_slid_71 rfl) ?_
        refine px (fun _ => pm_aload_n (pc := 73) d_Mo_slid_73 rfl) ?_
        refine px (fun _ => pm_iload_n (pc := 74) d_Mo_slid_74 rfl) ?_
        refine px (fun _ => pm_iconst (v := 0) (pc := 75) d_Mo_slid_75 rfl) ?_
        refine px (fun _ => pm_iload (pc := 76) d_Mo_slid_76 rfl) ?_
        refine px (fun _ => k_Mo_slid_78 (kc1 := 0) (ks1 := 0) (kc := 0) (ks := 0) (av := [.int (nI b), .int (0), .int (nI k)]) (st := [.double (FP.dconst0), .double (acc)]) H.1 (m_at2 (i := 0) hl H hb tb cb rb (by omega) (by omega)) rfl rfl (Nat.le_of_ble_eq_true rfl)) ?_
        refine px (fun _ => pm_dmul (pc := 81) d_Mo_slid_81 (by rw [← eX]; exact nn.1)) ?_
        refine px (fun _ => pm_dadd (pc := 82) d_Mo_slid_82 (by rw [← eX]; exact nn.2.1)) ?_
        refine px (fun _ => pm_dstore (lv' := [(6, .double ((FP.dadd acc (FP.dmul FP.dconst0 (gC S b (0 * 4 + k)))))), (10, .double (FP.dconst0)), (9, .int (nI (((j * p) + k) - q))), (8, .int (nI k)), (0, .ref (95)), (1, .int (nI n)), (2, .int (nI a)), (3, .int (nI b)), (4, .int (nI i)), (5, .int (nI j))]) (pc := 83) d_Mo_slid_83 (by decide) rfl) ?_
        refine px (fun _ => pm_iinc (x := nI k) (v := nI (k + 1)) (lv' := [(8, .int (nI (k + 1))), (6, .double ((FP.dadd acc (FP.dmul FP.dconst0 (gC S b (0 * 4 + k)))))), (10, .double (FP.dconst0)), (9, .int (nI (((j * p) + k) - q))), (0, .ref (95)), (1, .int (nI n)), (2, .int (nI a)), (3, .int (nI b)), (4, .int (nI i)), (5, .int (nI j))]) (pc := 85) d_Mo_slid_85 rfl (nI_1 _) (by decide) rfl) ?_
        refine px (fun _ => pm_goto (tgt := 6) (pc := 88) d_Mo_slid_88 (by decide)) ?_
        refine pxd [0, 1, 4, 5, 6, 7, 8, 9] rfl ?_
        have e9 : g_dot (fun k => if q ≤ j * p + k ∧ j * p + k - q < gT S a 2 then gC S a (i * 4 + (j * p + k - q)) else FP.dconst0) (fun k => gC S b (0 * 4 + k)) (d + 1) k acc = g_dot (fun k => if q ≤ j * p + k ∧ j * p + k - q < gT S a 2 then gC S a (i * 4 + (j * p + k - q)) else FP.dconst0) (fun k => gC S b (0 * 4 + k)) d (k + 1) (FP.dadd acc (FP.dmul (FP.dconst0) (gC S b (0 * 4 + k)))) := by { show g_dot (fun k => if q ≤ j * p + k ∧ j * p + k - q < gT S a 2 then gC S a (i * 4 + (j * p + k - q)) else FP.dconst0) (fun k => gC S b (0 * 4 + k)) d (k + 1) (FP.dadd acc (FP.dmul ((fun k => if q ≤ j * p + k ∧ j * p + k - q < gT S a 2 then gC S a (i * 4 + (j * p + k - q)) else FP.dconst0) k) (gC S b (0 * 4 + k)))) = _; rw [eX] }
        rw [e9]
        exact ih (k + 1) _ (by omega) (by rw [← eX]; exact nn.2.2)
    · skip
      refine px (fun _ => pm_isub (pc := 35) d_Mo_slid_35) ?_
      refine px (fun _ => pm_istore (lv' := [(9, .int ((nI ((j * p) + k) - nI q))), (8, .int (nI k)), (6, .double (acc)), (0, .ref (95)), (1, .int (nI n)), (2, .int (nI a)), (3, .int (nI b)), (4, .int (nI i)), (5, .int (nI j))]) (pc := 36) d_Mo_slid_36 (by decide) rfl) ?_
      refine px (fun _ => pm_iload (pc := 38) d_Mo_slid_38 rfl) ?_
      refine pxb (fun _ => pm_if_lt (pc := 40) (tgt := 54) d_Mo_slid_40 (by decide)) (fun c_4 => ?_) (fun c_4 => absurd (g_subneg _ (by omega) _ (by omega) (by omega)) c_4)
      refine px (fun _ => pm_dconst0 (pc := 54) d_Mo_slid_54) ?_
      refine px (fun _ => pm_goto (tgt := 67) (pc := 55) d_Mo_slid_55 (by decide)) ?_
      refine px (fun _ => pm_dstore (lv' := [(10, .double (FP.dconst0)), (9, .int ((nI ((j * p) + k) - nI q))), (8, .int (nI k)), (6, .double (acc)), (0, .ref (95)), (1, .int (nI n)), (2, .int (nI a)), (3, .int (nI b)), (4, .int (nI i)), (5, .int (nI j))]) (pc := 67) d_Mo_slid_67 (by decide) rfl) ?_
      have eX : (fun k => if q ≤ j * p + k ∧ j * p + k - q < gT S a 2 then gC S a (i * 4 + (j * p + k - q)) else FP.dconst0) k = FP.dconst0 := if_neg (by omega)
      refine px (fun _ => pm_dload (pc := 69) d_Mo_slid_69 rfl) ?_
      refine px (fun _ => pm_dload (pc := 71) d_Mo_slid_71 rfl) ?_
      refine px (fun _ => pm_aload_n (pc := 73) d_Mo_slid_73 rfl) ?_
      refine px (fun _ => pm_iload_n (pc := 74) d_Mo_slid_74 rfl) ?_
      refine px (fun _ => pm_iconst (v := 0) (pc := 75) d_Mo_slid_75 rfl) ?_
      refine px (fun _ => pm_iload (pc := 76) d_Mo_slid_76 rfl) ?_
      refine px (fun _ => k_Mo_slid_78 (kc1 := 0) (ks1 := 0) (kc := 0) (ks := 0) (av := [.int (nI b), .int (0), .int (nI k)]) (st := [.double (FP.dconst0), .double (acc)]) H.1 (m_at2 (i := 0) hl H hb tb cb rb (by omega) (by omega)) rfl rfl (Nat.le_of_ble_eq_true rfl)) ?_
      refine px (fun _ => pm_dmul (pc := 81) d_Mo_slid_81 (by rw [← eX]; exact nn.1)) ?_
      refine px (fun _ => pm_dadd (pc := 82) d_Mo_slid_82 (by rw [← eX]; exact nn.2.1)) ?_
      refine px (fun _ => pm_dstore (lv' := [(6, .double ((FP.dadd acc (FP.dmul FP.dconst0 (gC S b (0 * 4 + k)))))), (10, .double (FP.dconst0)), (9, .int ((nI ((j * p) + k) - nI q))), (8, .int (nI k)), (0, .ref (95)), (1, .int (nI n)), (2, .int (nI a)), (3, .int (nI b)), (4, .int (nI i)), (5, .int (nI j))]) (pc := 83) d_Mo_slid_83 (by decide) rfl) ?_
      refine px (fun _ => pm_iinc (x := nI k) (v := nI (k + 1)) (lv' := [(8, .int (nI (k + 1))), (6, .double ((FP.dadd acc (FP.dmul FP.dconst0 (gC S b (0 * 4 + k)))))), (10, .double (FP.dconst0)), (9, .int ((nI ((j * p) + k) - nI q))), (0, .ref (95)), (1, .int (nI n)), (2, .int (nI a)), (3, .int (nI b)), (4, .int (nI i)), (5, .int (nI j))]) (pc := 85) d_Mo_slid_85 rfl (nI_1 _) (by decide) rfl) ?_
      refine px (fun _ => pm_goto (tgt := 6) (pc := 88) d_Mo_slid_88 (by decide)) ?_
      refine pxd [0, 1, 4, 5, 6, 7, 8, 9] rfl ?_
      have e9 : g_dot (fun k => if q ≤ j * p + k ∧ j * p + k - q < gT S a 2 then gC S a (i * 4 + (j * p + k - q)) else FP.dconst0) (fun k => gC S b (0 * 4 + k)) (d + 1) k acc = g_dot (fun k => if q ≤ j * p + k ∧ j * p + k - q < gT S a 2 then gC S a (i * 4 + (j * p + k - q)) else FP.dconst0) (fun k => gC S b (0 * 4 + k)) d (k + 1) (FP.dadd acc (FP.dmul (FP.dconst0) (gC S b (0 * 4 + k)))) := by { show g_dot (fun k => if q ≤ j * p + k ∧ j * p + k - q < gT S a 2 then gC S a (i * 4 + (j * p + k - q)) else FP.dconst0) (fun k => gC S b (0 * 4 + k)) d (k + 1) (FP.dadd acc (FP.dmul ((fun k => if q ≤ j * p + k ∧ j * p + k - q < gT S a 2 then gC S a (i * 4 + (j * p + k - q)) else FP.dconst0) k) (gC S b (0 * 4 + k)))) = _; rw [eX] }
      rw [e9]
      exact ih (k + 1) _ (by omega) (by rw [← eX]; exact nn.2.2)
set_option maxHeartbeats 1000000 in
set_option maxRecDepth 20000 in
theorem m_sld {l : Launch} {G : pm_G} {fi : Bool} {h : pm_H} {S : gS} {T : mS} {n a b i j p q : Nat} (hl : l.stackTraces = false) (H : mH T h) (hn : n < 14) (ha : a < 20) (ta : mTb S T a) (ca : mCl S T a) (ra : g_rng S a) (hb : b < 20) (tb : mTb S T b) (cb : mCl S T b) (rb : g_rng S b) (hp : mQ T 8 n = nI p) (hq : mQ T 9 n = nI q) (p2 : p ≤ 2) (q2 : q ≤ 2) (hi : i < gT S a 1) (hj4 : j < 4) (hb1 : 1 ≤ gT S b 1) (hBa : ∀ k, k < gT S a 2 → gB (gC S a (i * 4 + k))) (hBb : ∀ k, k < gT S b 2 → gB (gC S b (0 * 4 + k))) : pm_En l G fi fi 0 0 M_Mo_slid [.ref (95), .int (nI n), .int (nI a), .int (nI b), .int (nI i), .int (nI j)] h (.inl (some (.double (g_dot (fun k => if q ≤ j * p + k ∧ j * p + k - q < gT S a 2 then gC S a (i * 4 + (j * p + k - q)) else FP.dconst0) (fun k => gC S b (0 * 4 + k)) (gT S b 2) 0 FP.dconst0))), h) := by
  refine pm_Cn.eq (pm_Cn.of hl (by decide) (Nat.le_of_ble_eq_true rfl) ?_)
  obtain ⟨t1, t2, t3⟩ := id ta
  obtain ⟨r1, r2, r3, r4, r5⟩ := id ra
  obtain ⟨s1, s2, s3, s4, s5⟩ := id rb
  obtain ⟨u1, u2, u3⟩ := id tb
  refine px (fun _ => pm_dconst0 (pc := 0) d_Mo_slid_0) ?_
  refine px (fun _ => pm_dstore (lv' := [(6, .double (FP.dconst0)), (0, .ref (95)), (1, .int (nI n)), (2, .int (nI a)), (3, .int (nI b)), (4, .int (nI i)), (5, .int (nI j))]) (pc := 1) d_Mo_slid_1 (by decide) rfl) ?_
  refine px (fun _ => pm_iconst (v := 0) (pc := 3) d_Mo_slid_3 rfl) ?_
  refine px (fun _ => pm_istore (lv' := [(8, .int (0)), (6, .double (FP.dconst0)), (0, .ref (95)), (1, .int (nI n)), (2, .int (nI a)), (3, .int (nI b)), (4, .int (nI i)), (5, .int (nI j))]) (pc := 4) d_Mo_slid_4 (by decide) rfl) ?_
  refine pxd [0, 1, 2, 3, 4, 5, 6, 7] rfl ?_
  exact lp_sld hl H hn ha ta ca ra hb tb cb rb hp hq p2 q2 hi hj4 hb1 hBa hBb (gT S b 2) 0 _ (by omega) (by decide)
