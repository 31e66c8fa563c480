/-! ===== the model: there, ordered ===== -/
theorem g_4 {k : Nat} (h : k ≤ 3) : k = 0 ∨ k = 1 ∨ k = 2 ∨ k = 3 := by omega
set_option maxHeartbeats 1000000 in
set_option maxRecDepth 20000 in
theorem lp_there3 {l : Launch} {G : pm_G} {fi : Bool} {h : pm_H} {S : gS} {T : mS} {n : Nat} {x : Int32} (hl : l.stackTraces = false) (H : mH T h) (hR : gR0 S T) (hW : gW S) (hV : gV S) (hU : gU S) (hJ : gJ S) (hm : n < gG S 0) (hM : ∀ m, m < gG S 0 → (gN S m 3 = 1 ↔ ¬ mBt x m = 0)) : ∀ (d k : Nat), k + d = gN S n 0 → pm_Px l G fi fi 0 0 M_Mo_there 3 [(4, .int (nI k)), (0, .ref (95)), (1, .int (nI n)), (2, .int (x)), (3, .int (0))] [] h (fun r => r = (.inl (some (.int (if g_allF (g_isO S n) k d = true then 1 else 0))), h)) := by
  have b1 := hW.1
  have bn := hW.2.2.2.2.2 n (by omega)
  have d1 := (hR.2.2.2.2 n hm).1
  have ar := (hU n hm).1
  have am := m_ar_g (gN S n 1) (by omega)
  have a3 := g_ar_ok (gN S n 1) (by omega)
  have hn : n < 14 := by omega
  intro d
  induction d with
  | zero =>
    intro k hd
    refine px (fun _ => pm_iload (pc := 3) d_Mo_there_3 rfl) ?_
    refine px (fun _ => pm_aload_n (pc := 5) d_Mo_there_5 rfl) ?_
    refine px (fun _ => pm_aload_n (pc := 6) d_Mo_there_6 rfl) ?_
    refine px (fun _ => pm_getf fl_Mo_29 (pc := 7) d_Mo_there_7 H.1 rfl) ?_
    refine px (fun _ => pm_iload_n (pc := 10) d_Mo_there_10 rfl) ?_
    refine px (fun _ => pm_iald (j := n) (pc := 11) d_Mo_there_11 H.2.2.2.2.2.2.2.1 (rfl) (hn) (by decide)) ?_
    rw [d1]
    refine px (fun _ => k_Mo_there_12 (kc1 := 0) (ks1 := 0) (kc := 0) (ks := 0) (av := [.int (nI (gN S n 1))]) (st := [.int (nI k)]) H.1 (m_arity hl H (by omega)) rfl rfl (Nat.le_of_ble_eq_true rfl)) ?_
    refine pxb (fun _ => pm_icmp_ge (pc := 15) (tgt := 89) d_Mo_there_15 (by decide)) (fun c_1 => ?_) (fun c_1 => absurd ((nI_leI (a := m_ar (gN S n 1)) (b := k) (by omega) (by omega)).mpr (by omega)) c_1)
    refine px (fun _ => pm_iconst (v := 1) (pc := 89) d_Mo_there_89 rfl) ?_
    exact pxr (pm_iret (pc := 90) d_Mo_there_90 rfl rfl) (by simp only [g_allF]; rfl)
  | succ d ih =>
    intro k hd
    have hk : k < gN S n 0 := by omega
    have hv := hV n hm k hk
    have dq : mQ T 12 (n * 3 + k) = nI (g_as S n k) := by
      obtain ⟨-, -, -, -, q0, q1, q2⟩ := hR.2.2.2.2 n hm
      have k3 : k = 0 ∨ k = 1 ∨ k = 2 := by omega
      rcases k3 with rfl | rfl | rfl
      · exact q0.trans hv.1
      · exact q1.trans hv.1
      · exact q2.trans hv.1
    obtain ⟨s9, es⟩ : ∃ s9, s9 = g_as S n k := ⟨_, rfl⟩
    rw [← es] at hv dq
    have hs := hv.2
    have kk := hR.2.2.2.1 s9 hs
    have bs := hW.2.2.2.2.1 s9 hs
    have yes : g_isOP S s9 → g_allF (g_isO S n) k (d + 1) = g_allF (g_isO S n) (k + 1) d := fun q => by
      simp only [g_allF]
      rw [show g_isO S n k = true from decide_eq_true (by rw [← es]; exact q), Bool.true_and]
    have no : ¬ g_isOP S s9 → g_allF (g_isO S n) k (d + 1) = false := fun q => by
      simp only [g_allF]
      rw [show g_isO S n k = false from decide_eq_false (by rw [← es]; exact q), Bool.false_and]
    refine px (fun _ => pm_iload (pc := 3) d_Mo_there_3 rfl) ?_
    refine px (fun _ => pm_aload_n (pc := 5) d_Mo_there_5 rfl) ?_
    refine px (fun _ => pm_aload_n (pc := 6) d_Mo_there_6 rfl) ?_
    refine px (fun _ => pm_getf fl_Mo_29 (pc := 7) d_Mo_there_7 H.1 rfl) ?_
    refine px (fun _ => pm_iload_n (pc := 10) d_Mo_there_10 rfl) ?_
    refine px (fun _ => pm_iald (j := n) (pc := 11) d_Mo_there_11 H.2.2.2.2.2.2.2.1 (rfl) (hn) (by decide)) ?_
    rw [d1]
    refine px (fun _ => k_Mo_there_12 (kc1 := 0) (ks1 := 0) (kc := 0) (ks := 0) (av := [.int (nI (gN S n 1))]) (st := [.int (nI k)]) H.1 (m_arity hl H (by omega)) rfl rfl (Nat.le_of_ble_eq_true rfl)) ?_
    refine pxb (fun _ => pm_icmp_ge (pc := 15) (tgt := 89) d_Mo_there_15 (by decide)) (fun c_1 => absurd c_1 (fun q => absurd ((nI_leI (a := m_ar (gN S n 1)) (b := k) (by omega) (by omega)).mp q) (by omega))) (fun c_1 => ?_)
    refine px (fun _ => pm_aload_n (pc := 18) d_Mo_there_18 rfl) ?_
    refine px (fun _ => pm_getf fl_Mo_47 (pc := 19) d_Mo_there_19 H.1 rfl) ?_
    refine px (fun _ => pm_iload_n (pc := 22) d_Mo_there_22 rfl) ?_
    refine px (fun _ => pm_iconst (v := 3) (pc := 23) d_Mo_there_23 rfl) ?_
    refine px (fun _ => pm_imulN (a := n) (b := 3) (pc := 24) d_Mo_there_24) ?_
    refine px (fun _ => pm_iload (pc := 25) d_Mo_there_25 rfl) ?_
    refine px (fun _ => pm_iaddN (a := (n * 3)) (b := k) (pc := 27) d_Mo_there_27) ?_
    refine px (fun _ => pm_iald (j := n * 3 + k) (pc := 28) d_Mo_there_28 H.2.2.2.2.2.2.2.2.2.2.2.2.2.1 (rfl) (by omega) (by decide)) ?_
    rw [dq]
    refine px (fun _ => pm_istore (lv' := [(5, .int (nI s9)), (4, .int (nI k)), (0, .ref (95)), (1, .int (nI n)), (2, .int (x)), (3, .int (0))]) (pc := 29) d_Mo_there_29 (by decide) rfl) ?_
    rcases g_4 bs.1 with k9 | k9 | k9 | k9
    · have k8 : nI (mA T 0 s9) = 0 := by rw [kk.1, k9]; rfl
      refine px (fun _ => pm_aload_n (pc := 31) d_Mo_there_31 rfl) ?_
      refine px (fun _ => pm_getf fl_Mo_7 (pc := 32) d_Mo_there_32 H.1 rfl) ?_
      refine px (fun _ => pm_iload (pc := 35) d_Mo_there_35 rfl) ?_
      refine px (fun _ => pm_iald (j := s9) (pc := 37) d_Mo_there_37 H.2.1 (rfl) (hs) (by decide)) ?_
      refine pxb (fun _ => pm_if_eq (pc := 38) (tgt := 81) d_Mo_there_38 (by decide)) (fun c_2 => ?_) (fun c_2 => absurd (k8) c_2)
      refine px (fun _ => pm_iconst (v := 0) (pc := 81) d_Mo_there_81 rfl) ?_
      exact pxr (pm_iret (pc := 82) d_Mo_there_82 rfl rfl) (by rw [no (fun q => by omega)]; rfl)
    · have k8 : nI (mA T 0 s9) = 1 := by rw [kk.1, k9]; rfl
      refine px (fun _ => pm_aload_n (pc := 31) d_Mo_there_31 rfl) ?_
      refine px (fun _ => pm_getf fl_Mo_7 (pc := 32) d_Mo_there_32 H.1 rfl) ?_
      refine px (fun _ => pm_iload (pc := 35) d_Mo_there_35 rfl) ?_
      refine px (fun _ => pm_iald (j := s9) (pc := 37) d_Mo_there_37 H.2.1 (rfl) (hs) (by decide)) ?_
      refine pxb (fun _ => pm_if_eq (pc := 38) (tgt := 81) d_Mo_there_38 (by decide)) (fun c_3 => absurd c_3 (by rw [k8]; decide)) (fun c_3 => ?_)
      refine px (fun _ => pm_aload_n (pc := 41) d_Mo_there_41 rfl) ?_
      refine px (fun _ => pm_getf fl_Mo_7 (pc := 42) d_Mo_there_42 H.1 rfl) ?_
      refine px (fun _ => pm_iload (pc := 45) d_Mo_there_45 rfl) ?_
      refine px (fun _ => pm_iald (j := s9) (pc := 47) d_Mo_there_47 H.2.1 (rfl) (hs) (by decide)) ?_
      refine px (fun _ => pm_iconst (v := 1) (pc := 48) d_Mo_there_48 rfl) ?_
      refine pxn (fun _ => pm_icmp_ne (pc := 49) (tgt := 56) d_Mo_there_49 (by decide)) (fun c_4 => absurd (k8) c_4) (fun c_4 => ?_)
      refine px (fun _ => pm_iload_n (pc := 52) d_Mo_there_52 rfl) ?_
      refine pxn (fun _ => pm_if_ne (pc := 53) (tgt := 81) d_Mo_there_53 (by decide)) (fun c_5 => absurd (by decide) c_5) (fun c_5 => ?_)
      refine px (fun _ => pm_aload_n (pc := 56) d_Mo_there_56 rfl) ?_
      refine px (fun _ => pm_getf fl_Mo_7 (pc := 57) d_Mo_there_57 H.1 rfl) ?_
      refine px (fun _ => pm_iload (pc := 60) d_Mo_there_60 rfl) ?_
      refine px (fun _ => pm_iald (j := s9) (pc := 62) d_Mo_there_62 H.2.1 (rfl) (hs) (by decide)) ?_
      refine px (fun _ => pm_iconst (v := 3) (pc := 63) d_Mo_there_63 rfl) ?_
      refine pxn (fun _ => pm_icmp_ne (pc := 64) (tgt := 83) d_Mo_there_64 (by decide)) (fun c_6 => ?_) (fun c_6 => absurd c_6 (by rw [k8]; decide))
      refine px (fun _ => pm_iinc (x := nI k) (v := nI (k + 1)) (lv' := [(4, .int (nI (k + 1))), (5, .int (nI s9)), (0, .ref (95)), (1, .int (nI n)), (2, .int (x)), (3, .int (0))]) (pc := 83) d_Mo_there_83 rfl (nI_1 _) (by decide) rfl) ?_
      refine px (fun _ => pm_goto (tgt := 3) (pc := 86) d_Mo_there_86 (by decide)) ?_
      refine pxd [0, 2, 3, 4, 5] rfl ?_
      rw [yes (Or.inl (Or.inl k9))]
      exact ih (k + 1) (by omega)
    · have k8 : nI (mA T 0 s9) = 2 := by rw [kk.1, k9]; rfl
      refine px (fun _ => pm_aload_n (pc := 31) d_Mo_there_31 rfl) ?_
      refine px (fun _ => pm_getf fl_Mo_7 (pc := 32) d_Mo_there_32 H.1 rfl) ?_
      refine px (fun _ => pm_iload (pc := 35) d_Mo_there_35 rfl) ?_
      refine px (fun _ => pm_iald (j := s9) (pc := 37) d_Mo_there_37 H.2.1 (rfl) (hs) (by decide)) ?_
      refine pxb (fun _ => pm_if_eq (pc := 38) (tgt := 81) d_Mo_there_38 (by decide)) (fun c_7 => absurd c_7 (by rw [k8]; decide)) (fun c_7 => ?_)
      refine px (fun _ => pm_aload_n (pc := 41) d_Mo_there_41 rfl) ?_
      refine px (fun _ => pm_getf fl_Mo_7 (pc := 42) d_Mo_there_42 H.1 rfl) ?_
      refine px (fun _ => pm_iload (pc := 45) d_Mo_there_45 rfl) ?_
      refine px (fun _ => pm_iald (j := s9) (pc := 47) d_Mo_there_47 H.2.1 (rfl) (hs) (by decide)) ?_
      refine px (fun _ => pm_iconst (v := 1) (pc := 48) d_Mo_there_48 rfl) ?_
      refine pxn (fun _ => pm_icmp_ne (pc := 49) (tgt := 56) d_Mo_there_49 (by decide)) (fun c_8 => ?_) (fun c_8 => absurd c_8 (by rw [k8]; decide))
      refine px (fun _ => pm_aload_n (pc := 56) d_Mo_there_56 rfl) ?_
      refine px (fun _ => pm_getf fl_Mo_7 (pc := 57) d_Mo_there_57 H.1 rfl) ?_
      refine px (fun _ => pm_iload (pc := 60) d_Mo_there_60 rfl) ?_
      refine px (fun _ => pm_iald (j := s9) (pc := 62) d_Mo_there_62 H.2.1 (rfl) (hs) (by decide)) ?_
      refine px (fun _ => pm_iconst (v := 3) (pc := 63) d_Mo_there_63 rfl) ?_
      refine pxn (fun _ => pm_icmp_ne (pc := 64) (tgt := 83) d_Mo_there_64 (by decide)) (fun c_9 => ?_) (fun c_9 => absurd c_9 (by rw [k8]; decide))
      refine px (fun _ => pm_iinc (x := nI k) (v := nI (k + 1)) (lv' := [(4, .int (nI (k + 1))), (5, .int (nI s9)), (0, .ref (95)), (1, .int (nI n)), (2, .int (x)), (3, .int (0))]) (pc := 83) d_Mo_there_83 rfl (nI_1 _) (by decide) rfl) ?_
      refine px (fun _ => pm_goto (tgt := 3) (pc := 86) d_Mo_there_86 (by decide)) ?_
      refine pxd [0, 2, 3, 4, 5] rfl ?_
      rw [yes (Or.inl (Or.inr k9))]
      exact ih (k + 1) (by omega)
    · have k8 : nI (mA T 0 s9) = 3 := by rw [kk.1, k9]; rfl
      have mk9 : mA T 4 s9 = gK S s9 1 := kk.2 k9
      have hj9 := (hJ.1 s9 hs k9).1
      have hm9 := hM _ hj9
      refine px (fun _ => pm_aload_n (pc := 31) d_Mo_there_31 rfl) ?_
      refine px (fun _ => pm_getf fl_Mo_7 (pc := 32) d_Mo_there_32 H.1 rfl) ?_
      refine px (fun _ => pm_iload (pc := 35) d_Mo_there_35 rfl) ?_
      refine px (fun _ => pm_iald (j := s9) (pc := 37) d_Mo_there_37 H.2.1 (rfl) (hs) (by decide)) ?_
      refine pxb (fun _ => pm_if_eq (pc := 38) (tgt := 81) d_Mo_there_38 (by decide)) (fun c_10 => absurd c_10 (by rw [k8]; decide)) (fun c_10 => ?_)
      refine px (fun _ => pm_aload_n (pc := 41) d_Mo_there_41 rfl) ?_
      refine px (fun _ => pm_getf fl_Mo_7 (pc := 42) d_Mo_there_42 H.1 rfl) ?_
      refine px (fun _ => pm_iload (pc := 45) d_Mo_there_45 rfl) ?_
      refine px (fun _ => pm_iald (j := s9) (pc := 47) d_Mo_there_47 H.2.1 (rfl) (hs) (by decide)) ?_
      refine px (fun _ => pm_iconst (v := 1) (pc := 48) d_Mo_there_48 rfl) ?_
      refine pxn (fun _ => pm_icmp_ne (pc := 49) (tgt := 56) d_Mo_there_49 (by decide)) (fun c_11 => ?_) (fun c_11 => absurd c_11 (by rw [k8]; decide))
      refine px (fun _ => pm_aload_n (pc := 56) d_Mo_there_56 rfl) ?_
      refine px (fun _ => pm_getf fl_Mo_7 (pc := 57) d_Mo_there_57 H.1 rfl) ?_
      refine px (fun _ => pm_iload (pc := 60) d_Mo_there_60 rfl) ?_
      refine px (fun _ => pm_iald (j := s9) (pc := 62) d_Mo_there_62 H.2.1 (rfl) (hs) (by decide)) ?_
      refine px (fun _ => pm_iconst (v := 3) (pc := 63) d_Mo_there_63 rfl) ?_
      refine pxn (fun _ => pm_icmp_ne (pc := 64) (tgt := 83) d_Mo_there_64 (by decide)) (fun c_12 => absurd (k8) c_12) (fun c_12 => ?_)
      refine px (fun _ => pm_iload_n (pc := 67) d_Mo_there_67 rfl) ?_
      refine px (fun _ => pm_aload_n (pc := 68) d_Mo_there_68 rfl) ?_
      refine px (fun _ => pm_getf fl_Mo_22 (pc := 69) d_Mo_there_69 H.1 rfl) ?_
      refine px (fun _ => pm_iload (pc := 72) d_Mo_there_72 rfl) ?_
      refine px (fun _ => pm_iald (j := s9) (pc := 74) d_Mo_there_74 H.2.2.2.2.2.1 (rfl) (hs) (by decide)) ?_
      rw [mk9]
      refine px (fun _ => pm_ishr (pc := 75) d_Mo_there_75) ?_
      refine px (fun _ => pm_iconst (v := 1) (pc := 76) d_Mo_there_76 rfl) ?_
      refine px (fun _ => pm_iand (pc := 77) d_Mo_there_77) ?_
      refine pxn (fun _ => pm_if_ne (pc := 78) (tgt := 83) d_Mo_there_78 (by decide)) (fun c_13 => ?_) (fun c_13 => ?_)
      · refine px (fun _ => pm_iinc (x := nI k) (v := nI (k + 1)) (lv' := [(4, .int (nI (k + 1))), (5, .int (nI s9)), (0, .ref (95)), (1, .int (nI n)), (2, .int (x)), (3, .int (0))]) (pc := 83) d_Mo_there_83 rfl (nI_1 _) (by decide) rfl) ?_
        refine px (fun _ => pm_goto (tgt := 3) (pc := 86) d_Mo_there_86 (by decide)) ?_
        refine pxd [0, 2, 3, 4, 5] rfl ?_
        rw [yes (Or.inr ⟨k9, hm9.mpr (by assumption)⟩)]
        exact ih (k + 1) (by omega)
      · refine px (fun _ => pm_iconst (v := 0) (pc := 81) d_Mo_there_81 rfl) ?_
        exact pxr (pm_iret (pc := 82) d_Mo_there_82 rfl rfl) (by rw [no (fun q => q.elim (fun q => by omega) (fun q => (hm9.mp q.2) (by assumption)))]; rfl)
set_option maxHeartbeats 1000000 in
set_option maxRecDepth 20000 in
theorem m_there3 {l : Launch} {G : pm_G} {fi : Bool} {h : pm_H} {S : gS} {T : mS} {n : Nat} {x : Int32} (hl : l.stackTraces = false) (H : mH T h) (hR : gR0 S T) (hW : gW S) (hV : gV S) (hU : gU S) (hJ : gJ S) (hm : n < gG S 0) (hM : ∀ m, m < gG S 0 → (gN S m 3 = 1 ↔ ¬ mBt x m = 0)) : pm_En l G fi fi 0 0 M_Mo_there [.ref 95, .int (nI n), .int x, .int 0] h (.inl (some (.int (if g_argO S n = true then 1 else 0))), h) := by
  refine pm_Cn.eq (pm_Cn.of hl (by decide) (Nat.le_of_ble_eq_true rfl) ?_)
  refine px (fun _ => pm_iconst (v := 0) (pc := 0) d_Mo_there_0 rfl) ?_
  refine px (fun _ => pm_istore (lv' := [(4, .int (0)), (0, .ref (95)), (1, .int (nI n)), (2, .int (x)), (3, .int (0))]) (pc := 1) d_Mo_there_1 (by decide) rfl) ?_
  refine pxd [0, 1, 2, 3, 4] rfl ?_
  exact lp_there3 hl H hR hW hV hU hJ hm hM (gN S n 0) 0 (by omega)
set_option maxHeartbeats 1000000 in
set_option maxRecDepth 20000 in
theorem lp_there4 {l : Launch} {G : pm_G} {fi : Bool} {h : pm_H} {S : gS} {T : mS} {n : Nat} {x : Int32} (hl : l.stackTraces = false) (H : mH T h) (hR : gR0 S T) (hW : gW S) (hV : gV S) (hU : gU S) (hJ : gJ S) (hm : n < gG S 0) (hM : ∀ m, m < gG S 0 → (gN S m 4 = 1 ↔ ¬ mBt x m = 0)) : ∀ (d k : Nat), k + d = gN S n 0 → pm_Px l G fi fi 0 0 M_Mo_there 3 [(4, .int (nI k)), (0, .ref (95)), (1, .int (nI n)), (2, .int (x)), (3, .int (1))] [] h (fun r => r = (.inl (some (.int (if g_allF (g_isC S n) k d = true then 1 else 0))), h)) := by
  have b1 := hW.1
  have bn := hW.2.2.2.2.2 n (by omega)
  have d1 := (hR.2.2.2.2 n hm).1
  have ar := (hU n hm).1
  have am := m_ar_g (gN S n 1) (by omega)
  have a3 := g_ar_ok (gN S n 1) (by omega)
  have hn : n < 14 := by omega
  intro d
  induction d with
  | zero =>
    intro k hd
    refine px (fun _ => pm_iload (pc := 3) d_Mo_there_3 rfl) ?_
    refine px (fun _ => pm_aload_n (pc := 5) d_Mo_there_5 rfl) ?_
    refine px (fun _ => pm_aload_n (pc := 6) d_Mo_there_6 rfl) ?_
    refine px (fun _ => pm_getf fl_Mo_29 (pc := 7) d_Mo_there_7 H.1 rfl) ?_
    refine px (fun _ => pm_iload_n (pc := 10) d_Mo_there_10 rfl) ?_
    refine px (fun _ => pm_iald (j := n) (pc := 11) d_Mo_there_11 H.2.2.2.2.2.2.2.1 (rfl) (hn) (by decide)) ?_
    rw [d1]
    refine px (fun _ => k_Mo_there_12 (kc1 := 0) (ks1 := 0) (kc := 0) (ks := 0) (av := [.int (nI (gN S n 1))]) (st := [.int (nI k)]) H.1 (m_arity hl H (by omega)) rfl rfl (Nat.le_of_ble_eq_true rfl)) ?_
    refine pxb (fun _ => pm_icmp_ge (pc := 15) (tgt := 89) d_Mo_there_15 (by decide)) (fun c_1 => ?_) (fun c_1 => absurd ((nI_leI (a := m_ar (gN S n 1)) (b := k) (by omega) (by omega)).mpr (by omega)) c_1)
    refine px (fun _ => pm_iconst (v := 1) (pc := 89) d_Mo_there_89 rfl) ?_
    exact pxr (pm_iret (pc := 90) d_Mo_there_90 rfl rfl) (by simp only [g_allF]; rfl)
  | succ d ih =>
    intro k hd
    have hk : k < gN S n 0 := by omega
    have hv := hV n hm k hk
    have dq : mQ T 12 (n * 3 + k) = nI (g_as S n k) := by
      obtain ⟨-, -, -, -, q0, q1, q2⟩ := hR.2.2.2.2 n hm
      have k3 : k = 0 ∨ k = 1 ∨ k = 2 := by omega
      rcases k3 with rfl | rfl | rfl
      · exact q0.trans hv.1
      · exact q1.trans hv.1
      · exact q2.trans hv.1
    obtain ⟨s9, es⟩ : ∃ s9, s9 = g_as S n k := ⟨_, rfl⟩
    rw [← es] at hv dq
    have hs := hv.2
    have kk := hR.2.2.2.1 s9 hs
    have bs := hW.2.2.2.2.1 s9 hs
    have yes : g_isCP S s9 → g_allF (g_isC S n) k (d + 1) = g_allF (g_isC S n) (k + 1) d := fun q => by
      simp only [g_allF]
      rw [show g_isC S n k = true from decide_eq_true (by rw [← es]; exact q), Bool.true_and]
    have no : ¬ g_isCP S s9 → g_allF (g_isC S n) k (d + 1) = false := fun q => by
      simp only [g_allF]
      rw [show g_isC S n k = false from decide_eq_false (by rw [← es]; exact q), Bool.false_and]
    refine px (fun _ => pm_iload (pc := 3) d_Mo_there_3 rfl) ?_
    refine px (fun _ => pm_aload_n (pc := 5) d_Mo_there_5 rfl) ?_
    refine px (fun _ => pm_aload_n (pc := 6) d_Mo_there_6 rfl) ?_
    refine px (fun _ => pm_getf fl_Mo_29 (pc := 7) d_Mo_there_7 H.1 rfl) ?_
    refine px (fun _ => pm_iload_n (pc := 10) d_Mo_there_10 rfl) ?_
    refine px (fun _ => pm_iald (j := n) (pc := 11) d_Mo_there_11 H.2.2.2.2.2.2.2.1 (rfl) (hn) (by decide)) ?_
    rw [d1]
    refine px (fun _ => k_Mo_there_12 (kc1 := 0) (ks1 := 0) (kc := 0) (ks := 0) (av := [.int (nI (gN S n 1))]) (st := [.int (nI k)]) H.1 (m_arity hl H (by omega)) rfl rfl (Nat.le_of_ble_eq_true rfl)) ?_
    refine pxb (fun _ => pm_icmp_ge (pc := 15) (tgt := 89) d_Mo_there_15 (by decide)) (fun c_1 => absurd c_1 (fun q => absurd ((nI_leI (a := m_ar (gN S n 1)) (b := k) (by omega) (by omega)).mp q) (by omega))) (fun c_1 => ?_)
    refine px (fun _ => pm_aload_n (pc := 18) d_Mo_there_18 rfl) ?_
    refine px (fun _ => pm_getf fl_Mo_47 (pc := 19) d_Mo_there_19 H.1 rfl) ?_
    refine px (fun _ => pm_iload_n (pc := 22) d_Mo_there_22 rfl) ?_
    refine px (fun _ => pm_iconst (v := 3) (pc := 23) d_Mo_there_23 rfl) ?_
    refine px (fun _ => pm_imulN (a := n) (b := 3) (pc := 24) d_Mo_there_24) ?_
    refine px (fun _ => pm_iload (pc := 25) d_Mo_there_25 rfl) ?_
    refine px (fun _ => pm_iaddN (a := (n * 3)) (b := k) (pc := 27) d_Mo_there_27) ?_
    refine px (fun _ => pm_iald (j := n * 3 + k) (pc := 28) d_Mo_there_28 H.2.2.2.2.2.2.2.2.2.2.2.2.2.1 (rfl) (by omega) (by decide)) ?_
    rw [dq]
    refine px (fun _ => pm_istore (lv' := [(5, .int (nI s9)), (4, .int (nI k)), (0, .ref (95)), (1, .int (nI n)), (2, .int (x)), (3, .int (1))]) (pc := 29) d_Mo_there_29 (by decide) rfl) ?_
    rcases g_4 bs.1 with k9 | k9 | k9 | k9
    · have k8 : nI (mA T 0 s9) = 0 := by rw [kk.1, k9]; rfl
      refine px (fun _ => pm_aload_n (pc := 31) d_Mo_there_31 rfl) ?_
      refine px (fun _ => pm_getf fl_Mo_7 (pc := 32) d_Mo_there_32 H.1 rfl) ?_
      refine px (fun _ => pm_iload (pc := 35) d_Mo_there_35 rfl) ?_
      refine px (fun _ => pm_iald (j := s9) (pc := 37) d_Mo_there_37 H.2.1 (rfl) (hs) (by decide)) ?_
      refine pxb (fun _ => pm_if_eq (pc := 38) (tgt := 81) d_Mo_there_38 (by decide)) (fun c_2 => ?_) (fun c_2 => absurd (k8) c_2)
      refine px (fun _ => pm_iconst (v := 0) (pc := 81) d_Mo_there_81 rfl) ?_
      exact pxr (pm_iret (pc := 82) d_Mo_there_82 rfl rfl) (by rw [no (fun q => by omega)]; rfl)
    · have k8 : nI (mA T 0 s9) = 1 := by rw [kk.1, k9]; rfl
      refine px (fun _ => pm_aload_n (pc := 31) d_Mo_there_31 rfl) ?_
      refine px (fun _ => pm_getf fl_Mo_7 (pc := 32) d_Mo_there_32 H.1 rfl) ?_
      refine px (fun _ => pm_iload (pc := 35) d_Mo_there_35 rfl) ?_
      refine px (fun _ => pm_iald (j := s9) (pc := 37) d_Mo_there_37 H.2.1 (rfl) (hs) (by decide)) ?_
      refine pxb (fun _ => pm_if_eq (pc := 38) (tgt := 81) d_Mo_there_38 (by decide)) (fun c_3 => absurd c_3 (by rw [k8]; decide)) (fun c_3 => ?_)
      refine px (fun _ => pm_aload_n (pc := 41) d_Mo_there_41 rfl) ?_
      refine px (fun _ => pm_getf fl_Mo_7 (pc := 42) d_Mo_there_42 H.1 rfl) ?_
      refine px (fun _ => pm_iload (pc := 45) d_Mo_there_45 rfl) ?_
      refine px (fun _ => pm_iald (j := s9) (pc := 47) d_Mo_there_47 H.2.1 (rfl) (hs) (by decide)) ?_
      refine px (fun _ => pm_iconst (v := 1) (pc := 48) d_Mo_there_48 rfl) ?_
      refine pxn (fun _ => pm_icmp_ne (pc := 49) (tgt := 56) d_Mo_there_49 (by decide)) (fun c_4 => absurd (k8) c_4) (fun c_4 => ?_)
      refine px (fun _ => pm_iload_n (pc := 52) d_Mo_there_52 rfl) ?_
      refine pxn (fun _ => pm_if_ne (pc := 53) (tgt := 81) d_Mo_there_53 (by decide)) (fun c_5 => ?_) (fun c_5 => absurd c_5 (by decide))
      refine px (fun _ => pm_iconst (v := 0) (pc := 81) d_Mo_there_81 rfl) ?_
      exact pxr (pm_iret (pc := 82) d_Mo_there_82 rfl rfl) (by rw [no (fun q => by omega)]; rfl)
    · have k8 : nI (mA T 0 s9) = 2 := by rw [kk.1, k9]; rfl
      refine px (fun _ => pm_aload_n (pc := 31) d_Mo_there_31 rfl) ?_
      refine px (fun _ => pm_getf fl_Mo_7 (pc := 32) d_Mo_there_32 H.1 rfl) ?_
      refine px (fun _ => pm_iload (pc := 35) d_Mo_there_35 rfl) ?_
      refine px (fun _ => pm_iald (j := s9) (pc := 37) d_Mo_there_37 H.2.1 (rfl) (hs) (by decide)) ?_
      refine pxb (fun _ => pm_if_eq (pc := 38) (tgt := 81) d_Mo_there_38 (by decide)) (fun c_6 => absurd c_6 (by rw [k8]; decide)) (fun c_6 => ?_)
      refine px (fun _ => pm_aload_n (pc := 41) d_Mo_there_41 rfl) ?_
      refine px (fun _ => pm_getf fl_Mo_7 (pc := 42) d_Mo_there_42 H.1 rfl) ?_
      refine px (fun _ => pm_iload (pc := 45) d_Mo_there_45 rfl) ?_
      refine px (fun _ => pm_iald (j := s9) (pc := 47) d_Mo_there_47 H.2.1 (rfl) (hs) (by decide)) ?_
      refine px (fun _ => pm_iconst (v := 1) (pc := 48) d_Mo_there_48 rfl) ?_
      refine pxn (fun _ => pm_icmp_ne (pc := 49) (tgt := 56) d_Mo_there_49 (by decide)) (fun c_7 => ?_) (fun c_7 => absurd c_7 (by rw [k8]; decide))
      refine px (fun _ => pm_aload_n (pc := 56) d_Mo_there_56 rfl) ?_
      refine px (fun _ => pm_getf fl_Mo_7 (pc := 57) d_Mo_there_57 H.1 rfl) ?_
      refine px (fun _ => pm_iload (pc := 60) d_Mo_there_60 rfl) ?_
      refine px (fun _ => pm_iald (j := s9) (pc := 62) d_Mo_there_62 H.2.1 (rfl) (hs) (by decide)) ?_
      refine px (fun _ => pm_iconst (v := 3) (pc := 63) d_Mo_there_63 rfl) ?_
      refine pxn (fun _ => pm_icmp_ne (pc := 64) (tgt := 83) d_Mo_there_64 (by decide)) (fun c_8 => ?_) (fun c_8 => absurd c_8 (by rw [k8]; decide))
      refine px (fun _ => pm_iinc (x := nI k) (v := nI (k + 1)) (lv' := [(4, .int (nI (k + 1))), (5, .int (nI s9)), (0, .ref (95)), (1, .int (nI n)), (2, .int (x)), (3, .int (1))]) (pc := 83) d_Mo_there_83 rfl (nI_1 _) (by decide) rfl) ?_
      refine px (fun _ => pm_goto (tgt := 3) (pc := 86) d_Mo_there_86 (by decide)) ?_
      refine pxd [0, 2, 3, 4, 5] rfl ?_
      rw [yes (Or.inl k9)]
      exact ih (k + 1) (by omega)
    · have k8 : nI (mA T 0 s9) = 3 := by rw [kk.1, k9]; rfl
      have mk9 : mA T 4 s9 = gK S s9 1 := kk.2 k9
      have hj9 := (hJ.1 s9 hs k9).1
      have hm9 := hM _ hj9
      refine px (fun _ => pm_aload_n (pc := 31) d_Mo_there_31 rfl) ?_
      refine px (fun _ => pm_getf fl_Mo_7 (pc := 32) d_Mo_there_32 H.1 rfl) ?_
      refine px (fun _ => pm_iload (pc := 35) d_Mo_there_35 rfl) ?_
      refine px (fun _ => pm_iald (j := s9) (pc := 37) d_Mo_there_37 H.2.1 (rfl) (hs) (by decide)) ?_
      refine pxb (fun _ => pm_if_eq (pc := 38) (tgt := 81) d_Mo_there_38 (by decide)) (fun c_9 => absurd c_9 (by rw [k8]; decide)) (fun c_9 => ?_)
      refine px (fun _ => pm_aload_n (pc := 41) d_Mo_there_41 rfl) ?_
      refine px (fun _ => pm_getf fl_Mo_7 (pc := 42) d_Mo_there_42 H.1 rfl) ?_
      refine px (fun _ => pm_iload (pc := 45) d_Mo_there_45 rfl) ?_
      refine px (fun _ => pm_iald (j := s9) (pc := 47) d_Mo_there_47 H.2.1 (rfl) (hs) (by decide)) ?_
      refine px (fun _ => pm_iconst (v := 1) (pc := 48) d_Mo_there_48 rfl) ?_
      refine pxn (fun _ => pm_icmp_ne (pc := 49) (tgt := 56) d_Mo_there_49 (by decide)) (fun c_10 => ?_) (fun c_10 => absurd c_10 (by rw [k8]; decide))
      refine px (fun _ => pm_aload_n (pc := 56) d_Mo_there_56 rfl) ?_
      refine px (fun _ => pm_getf fl_Mo_7 (pc := 57) d_Mo_there_57 H.1 rfl) ?_
      refine px (fun _ => pm_iload (pc := 60) d_Mo_there_60 rfl) ?_
      refine px (fun _ => pm_iald (j := s9) (pc := 62) d_Mo_there_62 H.2.1 (rfl) (hs) (by decide)) ?_
      refine px (fun _ => pm_iconst (v := 3) (pc := 63) d_Mo_there_63 rfl) ?_
      refine pxn (fun _ => pm_icmp_ne (pc := 64) (tgt := 83) d_Mo_there_64 (by decide)) (fun c_11 => absurd (k8) c_11) (fun c_11 => ?_)
      refine px (fun _ => pm_iload_n (pc := 67) d_Mo_there_67 rfl) ?_
      refine px (fun _ => pm_aload_n (pc := 68) d_Mo_there_68 rfl) ?_
      refine px (fun _ => pm_getf fl_Mo_22 (pc := 69) d_Mo_there_69 H.1 rfl) ?_
      refine px (fun _ => pm_iload (pc := 72) d_Mo_there_72 rfl) ?_
      refine px (fun _ => pm_iald (j := s9) (pc := 74) d_Mo_there_74 H.2.2.2.2.2.1 (rfl) (hs) (by decide)) ?_
      rw [mk9]
      refine px (fun _ => pm_ishr (pc := 75) d_Mo_there_75) ?_
      refine px (fun _ => pm_iconst (v := 1) (pc := 76) d_Mo_there_76 rfl) ?_
      refine px (fun _ => pm_iand (pc := 77) d_Mo_there_77) ?_
      refine pxn (fun _ => pm_if_ne (pc := 78) (tgt := 83) d_Mo_there_78 (by decide)) (fun c_12 => ?_) (fun c_12 => ?_)
      · refine px (fun _ => pm_iinc (x := nI k) (v := nI (k + 1)) (lv' := [(4, .int (nI (k + 1))), (5, .int (nI s9)), (0, .ref (95)), (1, .int (nI n)), (2, .int (x)), (3, .int (1))]) (pc := 83) d_Mo_there_83 rfl (nI_1 _) (by decide) rfl) ?_
        refine px (fun _ => pm_goto (tgt := 3) (pc := 86) d_Mo_there_86 (by decide)) ?_
        refine pxd [0, 2, 3, 4, 5] rfl ?_
        rw [yes (Or.inr ⟨k9, hm9.mpr (by assumption)⟩)]
        exact ih (k + 1) (by omega)
      · refine px (fun _ => pm_iconst (v := 0) (pc := 81) d_Mo_there_81 rfl) ?_
        exact pxr (pm_iret (pc := 82) d_Mo_there_82 rfl rfl) (by rw [no (fun q => q.elim (fun q => by omega) (fun q => (hm9.mp q.2) (by assumption)))]; rfl)
set_option maxHeartbeats 1000000 in
set_option maxRecDepth 20000 in
theorem m_there4 {l : Launch} {G : pm_G} {fi : Bool} {h : pm_H} {S : gS} {T : mS} {n : Nat} {x : Int32} (hl : l.stackTraces = false) (H : mH T h) (hR : gR0 S T) (hW : gW S) (hV : gV S) (hU : gU S) (hJ : gJ S) (hm : n < gG S 0) (hM : ∀ m, m < gG S 0 → (gN S m 4 = 1 ↔ ¬ mBt x m = 0)) : pm_En l G fi fi 0 0 M_Mo_there [.ref 95, .int (nI n), .int x, .int 1] h (.inl (some (.int (if g_argC S n = true then 1 else 0))), h) := by
  refine pm_Cn.eq (pm_Cn.of hl (by decide) (Nat.le_of_ble_eq_true rfl) ?_)
  refine px (fun _ => pm_iconst (v := 0) (pc := 0) d_Mo_there_0 rfl) ?_
  refine px (fun _ => pm_istore (lv' := [(4, .int (0)), (0, .ref (95)), (1, .int (nI n)), (2, .int (x)), (3, .int (1))]) (pc := 1) d_Mo_there_1 (by decide) rfl) ?_
  refine pxd [0, 1, 2, 3, 4] rfl ?_
  exact lp_there4 hl H hR hW hV hU hJ hm hM (gN S n 0) 0 (by omega)
theorem g_least_d (q : Nat → Bool) (m nc : Nat) (h : m < nc) : g_least q m (nc - m) = if q m = true then some m else g_least q (m + 1) (nc - (m + 1)) := by
  rw [show nc - m = (nc - (m + 1)) + 1 by omega]
  rfl
set_option maxHeartbeats 1000000 in
set_option maxRecDepth 20000 in
theorem lp_oi {l : Launch} {G : pm_G} {fi : Bool} {Post : pm_O × pm_H → Prop} {h : pm_H} {S : gS} {T : mS} {x : Int32} {pl : Nat} (hl : l.stackTraces = false) (hW : gW S) (hV : gV S) (hU : gU S) (hJ : gJ S) (H : mH T h) (hR : gR0 S T) (hM : ∀ m, m < gG S 0 → (gN S m 3 = 1 ↔ ¬ mBt x m = 0)) (K : pm_Px l G fi fi 0 0 M_Mo_ordered 56 [(3, .int (g_opt (g_least (g_canO S) 0 (gG S 0 - 0)))), (0, .ref 95), (1, .int x), (2, .int (nI pl))] [] h Post) : ∀ (m : Nat) (z y : Int32), m ≤ gG S 0 → (m = 0 → z < 0) → (∀ k, m = k + 1 → z = nI k) → y = g_opt (g_least (g_canO S) m (gG S 0 - m)) → pm_Px l G fi fi 0 0 M_Mo_ordered 22 [(4, .int (z)), (3, .int (y)), (0, .ref (95)), (1, .int (x)), (2, .int (nI pl))] [] h Post := by
  have b1 := hW.1
  intro m
  induction m with
  | zero =>
    intro z y hm0 hz1 hz2 hy
    subst hy
    refine px (fun _ => pm_iload (pc := 22) d_Mo_ordered_22 rfl) ?_
    refine pxb (fun _ => pm_if_lt (pc := 24) (tgt := 56) d_Mo_ordered_24 (by decide)) (fun c_1 => ?_) (fun c_1 => absurd (hz1 rfl) c_1)
    refine pxd [1, 2, 3, 4] rfl ?_
    exact K
  | succ m ih =>
    intro z y hm0 hz1 hz2 hy
    obtain rfl := hz2 m rfl
    have hm : m < gG S 0 := by omega
    have bm := hW.2.2.2.2.2 m (by omega)
    have ld := g_least_d (g_canO S) m (gG S 0) hm
    have zz1 : m = 0 → nI m + -1 < 0 := fun q => by subst q; decide
    have zz2 : ∀ k, m = k + 1 → nI m + -1 = nI k := fun k q => by rw [g_dec1 m (by omega) (by omega), q]; rfl
    refine px (fun _ => pm_iload (pc := 22) d_Mo_ordered_22 rfl) ?_
    refine pxb (fun _ => pm_if_lt (pc := 24) (tgt := 56) d_Mo_ordered_24 (by decide)) (fun c_1 => absurd c_1 (nI_pos (by omega))) (fun c_1 => ?_)
    refine px (fun _ => pm_iload_n (pc := 27) d_Mo_ordered_27 rfl) ?_
    refine px (fun _ => pm_iload (pc := 28) d_Mo_ordered_28 rfl) ?_
    refine px (fun _ => pm_ishr (pc := 30) d_Mo_ordered_30) ?_
    refine px (fun _ => pm_iconst (v := 1) (pc := 31) d_Mo_ordered_31 rfl) ?_
    refine px (fun _ => pm_iand (pc := 32) d_Mo_ordered_32) ?_
    refine pxn (fun _ => pm_if_ne (pc := 33) (tgt := 50) d_Mo_ordered_33 (by decide)) (fun c_2 => ?_) (fun c_2 => ?_)
    · refine px (fun _ => pm_iinc (x := nI m) (v := (nI m + -1)) (lv' := [(4, .int ((nI m + -1))), (3, .int (y)), (0, .ref (95)), (1, .int (x)), (2, .int (nI pl))]) (pc := 50) d_Mo_ordered_50 rfl (rfl) (by decide) rfl) ?_
      refine px (fun _ => pm_goto (tgt := 22) (pc := 53) d_Mo_ordered_53 (by decide)) ?_
      refine pxd [0, 1, 2, 3, 4] rfl ?_
      have cq : ¬ g_canO S m = true := by simp only [g_canO, Bool.and_eq_true, decide_eq_true_eq]; first | exact fun q => (by assumption : ¬ g_argO S m = true) q.2 | exact fun q => by { have q9 := (hM m hm).mpr (by assumption); omega }
      exact ih _ _ (by omega) zz1 zz2 (by rw [ld, if_neg cq]; exact hy)
    · refine px (fun _ => pm_aload_n (pc := 36) d_Mo_ordered_36 rfl) ?_
      refine px (fun _ => pm_iload (pc := 37) d_Mo_ordered_37 rfl) ?_
      refine px (fun _ => pm_iload_n (pc := 39) d_Mo_ordered_39 rfl) ?_
      refine px (fun _ => pm_iconst (v := 0) (pc := 40) d_Mo_ordered_40 rfl) ?_
      refine px (fun _ => k_Mo_ordered_41 (kc1 := 0) (ks1 := 0) (kc := 0) (ks := 0) (av := [.int (nI m), .int (x), .int (0)]) (st := []) H.1 (m_there3 hl H hR hW hV hU hJ hm hM) rfl rfl (Nat.le_of_ble_eq_true rfl)) ?_
      refine pxb (fun _ => pm_if_eq (pc := 44) (tgt := 50) d_Mo_ordered_44 (by decide)) (fun c_3 => ?_) (fun c_3 => ?_)
      · have n_c_3 : ¬ (g_argO S m = true) := g_if0.mp c_3
        refine px (fun _ => pm_iinc (x := nI m) (v := (nI m + -1)) (lv' := [(4, .int ((nI m + -1))), (3, .int (y)), (0, .ref (95)), (1, .int (x)), (2, .int (nI pl))]) (pc := 50) d_Mo_ordered_50 rfl (rfl) (by decide) rfl) ?_
        refine px (fun _ => pm_goto (tgt := 22) (pc := 53) d_Mo_ordered_53 (by decide)) ?_
        refine pxd [0, 1, 2, 3, 4] rfl ?_
        have cq : ¬ g_canO S m = true := by simp only [g_canO, Bool.and_eq_true, decide_eq_true_eq]; first | exact fun q => (by assumption : ¬ g_argO S m = true) q.2 | exact fun q => by { have q9 := (hM m hm).mpr (by assumption); omega }
        exact ih _ _ (by omega) zz1 zz2 (by rw [ld, if_neg cq]; exact hy)
      · have n_c_3 : g_argO S m = true := Decidable.byContradiction fun q => c_3 (g_if0.mpr q)
        refine px (fun _ => pm_iload (pc := 47) d_Mo_ordered_47 rfl) ?_
        refine px (fun _ => pm_istore_n (lv' := [(3, .int (nI m)), (4, .int (nI m)), (0, .ref (95)), (1, .int (x)), (2, .int (nI pl))]) (pc := 49) d_Mo_ordered_49 (by decide) rfl) ?_
        refine px (fun _ => pm_iinc (x := nI m) (v := (nI m + -1)) (lv' := [(4, .int ((nI m + -1))), (3, .int (nI m)), (0, .ref (95)), (1, .int (x)), (2, .int (nI pl))]) (pc := 50) d_Mo_ordered_50 rfl (rfl) (by decide) rfl) ?_
        refine px (fun _ => pm_goto (tgt := 22) (pc := 53) d_Mo_ordered_53 (by decide)) ?_
        refine pxd [0, 1, 2, 3, 4] rfl ?_
        have cq : g_canO S m = true := by simp only [g_canO, Bool.and_eq_true, decide_eq_true_eq]; exact ⟨by have q9 : ¬ gN S m 3 = 1 := fun q => ((hM m hm).mp q) (by assumption); omega, by assumption⟩
        exact ih _ _ (by omega) zz1 zz2 (by rw [ld, if_pos cq]; rfl)
theorem gR0.ordst {S : gS} {T : mS} (h : gR0 S T) (pl n v : Nat) : gR0 (gsN (gsO S pl n) n 3 1) (msA T 11 pl v) := by
  obtain ⟨h0, h2, h3, h4, h5⟩ := h
  refine ⟨h0, h2, h3, fun s hs => h4 s hs, fun m hm => ?_⟩
  have := h5 m hm
  have q := g_eqO.st S pl n
  unfold mNd at this ⊢
  rw [q.2.2.2.2.2.1 m 1 (by decide), q.2.2.2.2.2.1 m 2 (by decide)]
  exact this
/-- only the order is another -/
def mqO (T T' : mS) : Prop := mG T' = mG T ∧ (∀ a b, a ≠ 11 → mA T' a b = mA T a b) ∧ mQ T' = mQ T ∧ mV T' = mV T ∧ mF T' = mF T
theorem mqO.st {T T' : mS} (h : mqO T T') (pl v : Nat) : mqO T (msA T' 11 pl v) := ⟨h.1, fun a b ha => (g_up2_n _ _ (Or.inl ha)).trans (h.2.1 a b ha), h.2.2.1, h.2.2.2.1, h.2.2.2.2⟩
theorem mqO.rf (T : mS) : mqO T T := ⟨rfl, fun _ _ _ => rfl, rfl, rfl, rfl⟩
abbrev m_PO (T0 : mS) (h0 : pm_H) (y : Bool × gS) (nc : Nat) : pm_O × pm_H → Prop := fun r => ∃ T', r.1 = .inl (some (.int (if y.1 = true then 1 else 0))) ∧ mH T' r.2 ∧ mFr h0 r.2 ∧ mqO T0 T' ∧ (y.1 = true → ∀ k, k < nc → mA T' 11 k = gO y.2 k)
set_option maxHeartbeats 1000000 in
set_option maxRecDepth 20000 in
theorem lp_oo {l : Launch} {G : pm_G} {fi : Bool} {h0 : pm_H} {T0 : mS} (hl : l.stackTraces = false) : ∀ (d pl : Nat) (S : gS) (x : Int32) (T : mS) (h : pm_H), mH T h → mFr h0 h → mqO T0 T → gW S → gV S → gU S → gJ S → gR0 S T → (∀ m, m < gG S 0 → (gN S m 3 = 1 ↔ ¬ mBt x m = 0)) → (∀ k, k < pl → mA T 11 k = gO S k) → pl + d = gG S 0 → pm_Px l G fi fi 0 0 M_Mo_ordered 4 [(2, .int (nI pl)), (1, .int (x)), (0, .ref (95))] [] h (m_PO T0 h0 (g_ordL (gG S 0) d pl S) (gG S 0)) := by
  intro d
  induction d with
  | zero =>
    intro pl S x T h H F Q hW hV hU hJ hR hM hO hd
    have b1 := hW.1
    obtain rfl : pl = gG S 0 := by omega
    have e0 := hR.1
    refine px (fun _ => pm_iload_n (pc := 4) d_Mo_ordered_4 rfl) ?_
    refine px (fun _ => pm_aload_n (pc := 5) d_Mo_ordered_5 rfl) ?_
    refine px (fun _ => pm_getf fl_Mo_82 (pc := 6) d_Mo_ordered_6 H.1 rfl) ?_
    refine pxb (fun _ => pm_icmp_ge (pc := 9) (tgt := 81) d_Mo_ordered_9 (by decide)) (fun c_1 => ?_) (fun c_1 => absurd (by rw [e0]; exact (nI_leI (a := gG S 0) (b := gG S 0) (by omega) (by omega)).mpr (by omega)) c_1)
    refine px (fun _ => pm_iconst (v := 1) (pc := 81) d_Mo_ordered_81 rfl) ?_
    exact pxr (pm_iret (pc := 82) d_Mo_ordered_82 rfl rfl) ⟨T, rfl, H, F, Q, fun _ => hO⟩
  | succ d ih =>
    intro pl S x T h H F Q hW hV hU hJ hR hM hO hd
    have b1 := hW.1
    have e0 := hR.1
    refine px (fun _ => pm_iload_n (pc := 4) d_Mo_ordered_4 rfl) ?_
    refine px (fun _ => pm_aload_n (pc := 5) d_Mo_ordered_5 rfl) ?_
    refine px (fun _ => pm_getf fl_Mo_82 (pc := 6) d_Mo_ordered_6 H.1 rfl) ?_
    refine pxb (fun _ => pm_icmp_ge (pc := 9) (tgt := 81) d_Mo_ordered_9 (by decide)) (fun c_1 => absurd c_1 (by rw [e0]; exact fun q => absurd ((nI_leI (a := gG S 0) (b := pl) (by omega) (by omega)).mp q) (by omega))) (fun c_1 => ?_)
    refine px (fun _ => pm_iconst (v := -1) (pc := 12) d_Mo_ordered_12 rfl) ?_
    refine px (fun _ => pm_istore_n (lv' := [(3, .int (-1)), (2, .int (nI pl)), (1, .int (x)), (0, .ref (95))]) (pc := 13) d_Mo_ordered_13 (by decide) rfl) ?_
    refine px (fun _ => pm_aload_n (pc := 14) d_Mo_ordered_14 rfl) ?_
    refine px (fun _ => pm_getf fl_Mo_82 (pc := 15) d_Mo_ordered_15 H.1 rfl) ?_
    refine px (fun _ => pm_iconst (v := 1) (pc := 18) d_Mo_ordered_18 rfl) ?_
    refine px (fun _ => pm_isub (pc := 19) d_Mo_ordered_19) ?_
    refine px (fun _ => pm_istore (lv' := [(4, .int ((nI (mG T 0) - 1))), (3, .int (-1)), (2, .int (nI pl)), (1, .int (x)), (0, .ref (95))]) (pc := 20) d_Mo_ordered_20 (by decide) rfl) ?_
    refine pxd [0, 1, 4, 3, 2] rfl ?_
    rw [e0]
    refine lp_oi hl hW hV hU hJ H hR hM ?_ (gG S 0) _ _ (Nat.le_refl _) (fun q => by rw [q]; decide) (fun k q => by rw [q]; exact pk_sub (a := k + 1) (b := 1) (by omega)) (by rw [Nat.sub_self]; rfl)
    rw [Nat.sub_zero]
    have e9 : g_ordL (gG S 0) (d + 1) pl S = match g_least (g_canO S) 0 (gG S 0) with | none => (false, S) | some n => g_ordL (gG S 0) d (pl + 1) (gsN (gsO S pl n) n 3 1) := rfl
    rw [e9]
    cases el : g_least (g_canO S) 0 (gG S 0) with
    | none =>
      refine px (fun _ => pm_iload_n (pc := 56) d_Mo_ordered_56 rfl) ?_
      refine pxb (fun _ => pm_if_ge (pc := 57) (tgt := 62) d_Mo_ordered_57 (by decide)) (fun c_2 => absurd c_2 (by decide)) (fun c_2 => ?_)
      refine px (fun _ => pm_iconst (v := 0) (pc := 60) d_Mo_ordered_60 rfl) ?_
      exact pxr (pm_iret (pc := 61) d_Mo_ordered_61 rfl rfl) ⟨T, rfl, H, F, Q, fun q => nomatch q⟩
    | some n =>
      have hn := g_least_lt _ _ _ _ el
      refine px (fun _ => pm_iload_n (pc := 56) d_Mo_ordered_56 rfl) ?_
      refine pxb (fun _ => pm_if_ge (pc := 57) (tgt := 62) d_Mo_ordered_57 (by decide)) (fun c_3 => ?_) (fun c_3 => absurd (nI_pos' (by omega)) c_3)
      refine px (fun _ => pm_aload_n (pc := 62) d_Mo_ordered_62 rfl) ?_
      refine px (fun _ => pm_getf fl_Mo_44 (pc := 63) d_Mo_ordered_63 H.1 rfl) ?_
      refine px (fun _ => pm_iload_n (pc := 66) d_Mo_ordered_66 rfl) ?_
      refine px (fun _ => pm_iload_n (pc := 67) d_Mo_ordered_67 rfl) ?_
      refine px (fun _ => pm_iast (j := pl) (pc := 68) d_Mo_ordered_68 H.2.2.2.2.2.2.2.2.2.2.2.2.1 (rfl) ((by omega)) (by decide)) ?_
      have H_4 : mH (msA T 11 pl n) (h.set (107) (pm_I 14 (va_up (fun j => nI (mA T 11 j)) (pl) (nI n)))) := H.A11 (j := pl) (v := n)
      refine px (fun _ => pm_iload_n (pc := 69) d_Mo_ordered_69 rfl) ?_
      refine px (fun _ => pm_iconst (v := 1) (pc := 70) d_Mo_ordered_70 rfl) ?_
      refine px (fun _ => pm_iload_n (pc := 71) d_Mo_ordered_71 rfl) ?_
      refine px (fun _ => pm_ishl (pc := 72) d_Mo_ordered_72) ?_
      refine px (fun _ => pm_ior (pc := 73) d_Mo_ordered_73) ?_
      refine px (fun _ => pm_istore_n (lv' := [(1, .int ((x ||| (1 <<< (nI n &&& 31))))), (3, .int (nI n)), (0, .ref (95)), (2, .int (nI pl))]) (pc := 74) d_Mo_ordered_74 (by decide) rfl) ?_
      refine px (fun _ => pm_iinc (x := nI pl) (v := nI (pl + 1)) (lv' := [(2, .int (nI (pl + 1))), (1, .int ((x ||| (1 <<< (nI n &&& 31))))), (3, .int (nI n)), (0, .ref (95))]) (pc := 75) d_Mo_ordered_75 rfl (nI_1 _) (by decide) rfl) ?_
      refine px (fun _ => pm_goto (tgt := 4) (pc := 78) d_Mo_ordered_78 (by decide)) ?_
      refine pxd [0, 1, 3] rfl ?_
      have q9 := g_eqO.st S pl n
      refine ih (pl + 1) (gsN (gsO S pl n) n 3 1) _ _ _ H_4 (F.tr ((mFr.set _ _ (by omega)))) (Q.st pl n) (gW.N (gW.O hW (by omega)) ⟨fun _ => by omega, fun _ => by omega, fun _ => by omega, fun _ => by omega, fun _ => by omega, fun _ => by omega⟩) (q9.V hV) (q9.U hU) (q9.J hJ) (hR.ordst pl n n) (fun m hm => ?_) (fun k hk => ?_) (show pl + 1 + d = gG S 0 by omega)
      · have hm : m < gG S 0 := hm
        have m9 := hM m hm
        have n9 : gN (gsN (gsO S pl n) n 3 1) m 3 = if m = n then 1 else gN S m 3 := by show g_up2 (gN S) n 3 1 m 3 = _; simp [g_up2]
        rw [n9, mBt_or (by omega) (by omega)]
        by_cases em : m = n
        · rw [if_pos em]; exact ⟨fun _ q => q.2 em, fun _ => rfl⟩
        · rw [if_neg em, m9]; exact ⟨fun q r => q r.1, fun q r => q ⟨r, em⟩⟩
      · show g_up2 (mA T) 11 pl n 11 k = va_up (gO S) pl n k
        simp only [va_up]
        by_cases ek : k = pl
        · rw [if_pos ek, ek, g_up2_s]
        · rw [if_neg ek, g_up2_n _ _ (Or.inr ek)]; exact hO k (by omega)
set_option maxHeartbeats 1000000 in
set_option maxRecDepth 20000 in
theorem m_ordered {l : Launch} {G : pm_G} {fi : Bool} {h : pm_H} {S : gS} {T : mS} (hl : l.stackTraces = false) (H : mH T h) (hW : gW S) (hV : gV S) (hU : gU S) (hJ : gJ S) (hR : gR0 S T) : pm_Cn l G fi fi 0 0 M_Mo_ordered [.ref 95] h (m_PO T h (g_o1 S) (gG S 0)) := by
  refine pm_Cn.of hl (by decide) (Nat.le_of_ble_eq_true rfl) ?_
  have q9 := g_eqO.clr S 0 (gG S 0)
  refine px (fun _ => pm_iconst (v := 0) (pc := 0) d_Mo_ordered_0 rfl) ?_
  refine px (fun _ => pm_istore_n (lv' := [(1, .int (0)), (0, .ref (95))]) (pc := 1) d_Mo_ordered_1 (by decide) rfl) ?_
  refine px (fun _ => pm_iconst (v := 0) (pc := 2) d_Mo_ordered_2 rfl) ?_
  refine px (fun _ => pm_istore_n (lv' := [(2, .int (0)), (1, .int (0)), (0, .ref (95))]) (pc := 3) d_Mo_ordered_3 (by decide) rfl) ?_
  refine pxd [0, 1, 2] rfl ?_
  refine lp_oo (h0 := h) (T0 := T) hl (gG S 0) 0 (g_clrN S 3 0 (gG S 0)) _ T h H (mFr.rf h) (mqO.rf T) (gW.clrN hW) (q9.V hV) (q9.U hU) (q9.J hJ) ?_ (fun m hm => ?_) (fun k hk => by omega) (Nat.zero_add _)
  · obtain ⟨h0, h2, h3, h4, h5⟩ := hR
    refine ⟨h0, h2, h3, h4, fun m hm => ?_⟩
    have := h5 m hm
    unfold mNd at this ⊢
    rw [q9.2.2.2.2.2.1 m 1 (by decide), q9.2.2.2.2.2.1 m 2 (by decide)]
    exact this
  · have hm : m < gG S 0 := hm
    have n9 : gN (g_clrN S 3 0 (gG S 0)) m 3 = 0 := by show (if (3 : Nat) = 3 ∧ 0 ≤ m ∧ m < gG S 0 then 0 else _) = 0; rw [if_pos ⟨rfl, by omega, hm⟩]
    rw [n9]
    exact ⟨fun q => by omega, fun q => absurd (mBt_0 m) q⟩
