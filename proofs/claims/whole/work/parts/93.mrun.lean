/-! ===== the model: known, missing, need, run ===== -/
theorem m_dq {S : gS} {T : mS} {n k : Nat} (nd : mNd S T n) (hv : gA S n k = nI (g_as S n k)) (hk : k < 3) : mQ T 12 (n * 3 + k) = nI (g_as S n k) := by
  obtain ⟨-, -, -, -, d5, d6, d7⟩ := nd
  have k3 : k = 0 ∨ k = 1 ∨ k = 2 := by omega
  rcases k3 with rfl | rfl | rfl
  · exact d5.trans hv
  · exact d6.trans hv
  · exact d7.trans hv
set_option maxHeartbeats 1000000 in
set_option maxRecDepth 20000 in
theorem m_known {l : Launch} {G : pm_G} {fi : Bool} {h : pm_H} {S : gS} {T : mS} {s : Nat} (hl : l.stackTraces = false) (H : mH T h) (hI : gI S) (hr : gG S 1 = 1) (hR : gR S T) (hs : s < 20) (hk : ¬ gK S s 0 = 0) : pm_En l G fi fi 0 0 M_Mo_known [.ref 95, .int (nI s)] h (.inl (some (.int (if g_isT S s = true then 1 else 0))), h) := by
  refine pm_Cn.eq (pm_Cn.of hl (by decide) (Nat.le_of_ble_eq_true rfl) ?_)
  have kk := hR.1.2.2.2.1 s hs
  have bs := hI.1.2.2.2.2.1 s hs
  have b1 := hI.1.1
  by_cases k9 : gK S s 0 = 3
  · have k8 : nI (mA T 0 s) = 3 := by rw [kk.1, k9]; rfl
    have hj := (hI.2.2.2.1.1 s hs k9).1
    have m9 : mA T 4 s = gK S s 1 := kk.2 k9
    have s9 : mA T 10 (gK S s 1) = g_ss0 S (gK S s 1) := hR.2.2.2.1 _ hj
    refine px (fun _ => pm_aload_n (pc := 0) d_Mo_known_0 rfl) ?_
    refine px (fun _ => pm_getf fl_Mo_7 (pc := 1) d_Mo_known_1 H.1 rfl) ?_
    refine px (fun _ => pm_iload_n (pc := 4) d_Mo_known_4 rfl) ?_
    refine px (fun _ => pm_iald (j := s) (pc := 5) d_Mo_known_5 H.2.1 (rfl) (hs) (by decide)) ?_
    refine px (fun _ => pm_iconst (v := 3) (pc := 6) d_Mo_known_6 rfl) ?_
    refine pxn (fun _ => pm_icmp_ne (pc := 7) (tgt := 24) d_Mo_known_7 (by decide)) (fun c_1 => absurd (k8) c_1) (fun c_1 => ?_)
    refine px (fun _ => pm_aload_n (pc := 10) d_Mo_known_10 rfl) ?_
    refine px (fun _ => pm_getf fl_Mo_41 (pc := 11) d_Mo_known_11 H.1 rfl) ?_
    refine px (fun _ => pm_aload_n (pc := 14) d_Mo_known_14 rfl) ?_
    refine px (fun _ => pm_getf fl_Mo_22 (pc := 15) d_Mo_known_15 H.1 rfl) ?_
    refine px (fun _ => pm_iload_n (pc := 18) d_Mo_known_18 rfl) ?_
    refine px (fun _ => pm_iald (j := s) (pc := 19) d_Mo_known_19 H.2.2.2.2.2.1 (rfl) (hs) (by decide)) ?_
    rw [m9]
    refine px (fun _ => pm_iald (j := gK S s 1) (pc := 20) d_Mo_known_20 H.2.2.2.2.2.2.2.2.2.2.2.1 (rfl) ((by omega)) (by decide)) ?_
    by_cases ho : g_ho S (gK S s 1)
    · have i9 : g_isT S s = true := g_isT_y (Or.inr ⟨k9, ho⟩)
      have n9 : ¬ nI (mA T 10 (gK S s 1)) = 0 := by rw [s9]; rcases g_ss0_ho ho with q | q <;> (rw [q]; decide)
      refine pxb (fun _ => pm_if_eq (pc := 21) (tgt := 28) d_Mo_known_21 (by decide)) (fun c_2 => absurd c_2 (n9)) (fun c_2 => ?_)
      refine px (fun _ => pm_iconst (v := 1) (pc := 24) d_Mo_known_24 rfl) ?_
      refine px (fun _ => pm_goto (tgt := 29) (pc := 25) d_Mo_known_25 (by decide)) ?_
      exact pxr (pm_iret (pc := 29) d_Mo_known_29 rfl rfl) (by rw [if_pos i9])
    · have i9 : ¬ g_isT S s = true := g_isT_n (fun q => q.elim (fun q => by omega) (fun q => ho q.2))
      have n9 : nI (mA T 10 (gK S s 1)) = 0 := by rw [s9, g_ss0_no ho]; rfl
      refine pxb (fun _ => pm_if_eq (pc := 21) (tgt := 28) d_Mo_known_21 (by decide)) (fun c_3 => ?_) (fun c_3 => absurd (n9) c_3)
      refine px (fun _ => pm_iconst (v := 0) (pc := 28) d_Mo_known_28 rfl) ?_
      exact pxr (pm_iret (pc := 29) d_Mo_known_29 rfl rfl) (by rw [if_neg i9])
  · have k8 : ¬ nI (mA T 0 s) = 3 := fun q => k9 ((nI_eq (a := gK S s 0) (b := 3) (by omega) (by omega)).mp (by rw [← kk.1]; exact q))
    have i9 : g_isT S s = true := g_isT_y (Or.inl (by omega))
    refine px (fun _ => pm_aload_n (pc := 0) d_Mo_known_0 rfl) ?_
    refine px (fun _ => pm_getf fl_Mo_7 (pc := 1) d_Mo_known_1 H.1 rfl) ?_
    refine px (fun _ => pm_iload_n (pc := 4) d_Mo_known_4 rfl) ?_
    refine px (fun _ => pm_iald (j := s) (pc := 5) d_Mo_known_5 H.2.1 (rfl) (hs) (by decide)) ?_
    refine px (fun _ => pm_iconst (v := 3) (pc := 6) d_Mo_known_6 rfl) ?_
    refine pxn (fun _ => pm_icmp_ne (pc := 7) (tgt := 24) d_Mo_known_7 (by decide)) (fun c_1 => ?_) (fun c_1 => absurd c_1 (k8))
    refine px (fun _ => pm_iconst (v := 1) (pc := 24) d_Mo_known_24 rfl) ?_
    refine px (fun _ => pm_goto (tgt := 29) (pc := 25) d_Mo_known_25 (by decide)) ?_
    exact pxr (pm_iret (pc := 29) d_Mo_known_29 rfl rfl) (by rw [if_pos i9])
set_option maxHeartbeats 1000000 in
set_option maxRecDepth 20000 in
theorem lp_miss {l : Launch} {G : pm_G} {fi : Bool} {h : pm_H} {S : gS} {T : mS} {n : Nat} (hl : l.stackTraces = false) (H : mH T h) (hI : gI S) (hr : gG S 1 = 1) (hR : gR S T) (hn : n < gG S 0) : ∀ (d k : Nat), k + d = gN S n 0 → pm_Px l G fi fi 0 0 M_Mo_missing 84 [(2, .int (nI k)), (0, .ref (95)), (1, .int (nI n))] [] h (fun r => r = (.inl (some (.int (g_oi (g_fna S n k d)))), h)) := by
  obtain ⟨b1, b2, b3, b4, b5, b6, b7⟩ := hI.arr hn
  obtain ⟨d1, d2, d3, d4, d5, d6, d7⟩ := hR.1.2.2.2.2 n hn
  have am := m_ar_g (gN S n 1) (by omega)
  have hV := hI.2.1
  have dq : ∀ k, k < gN S n 0 → mQ T 12 (n * 3 + k) = nI (g_as S n k) := fun k hk => m_dq (hR.1.2.2.2.2 n hn) (hV n hn k hk).1 (by omega)
  intro d
  induction d with
  | zero =>
    intro k hd
    refine px (fun _ => pm_iload_n (pc := 84) d_Mo_missing_84 rfl) ?_
    refine px (fun _ => pm_aload_n (pc := 85) d_Mo_missing_85 rfl) ?_
    refine px (fun _ => pm_aload_n (pc := 86) d_Mo_missing_86 rfl) ?_
    refine px (fun _ => pm_getf fl_Mo_29 (pc := 87) d_Mo_missing_87 H.1 rfl) ?_
    refine px (fun _ => pm_iload_n (pc := 90) d_Mo_missing_90 rfl) ?_
    refine px (fun _ => pm_iald (j := n) (pc := 91) d_Mo_missing_91 H.2.2.2.2.2.2.2.1 (rfl) (b1) (by decide)) ?_
    rw [d1]
    refine px (fun _ => k_Mo_missing_92 (kc1 := 0) (ks1 := 0) (kc := 0) (ks := 0) (av := [.int (nI (gN S n 1))]) (st := [.int (nI k)]) H.1 (m_arity hl H (by omega)) rfl rfl (Nat.le_of_ble_eq_true rfl)) ?_
    refine pxb (fun _ => pm_icmp_ge (pc := 95) (tgt := 132) d_Mo_missing_95 (by decide)) (fun c_1 => ?_) (fun c_1 => absurd ((nI_leI (a := m_ar (gN S n 1)) (b := k) (by omega) (by omega)).mpr (by omega)) c_1)
    refine px (fun _ => pm_iconst (v := -1) (pc := 132) d_Mo_missing_132 rfl) ?_
    exact pxr (pm_iret (pc := 133) d_Mo_missing_133 rfl rfl) (rfl)
  | succ d ih =>
    intro k hd
    have hk : k < gN S n 0 := by omega
    have eq := dq k hk
    have hs := b7 k hk
    have hk0 := hI.kinds hr hn hk
    refine px (fun _ => pm_iload_n (pc := 84) d_Mo_missing_84 rfl) ?_
    refine px (fun _ => pm_aload_n (pc := 85) d_Mo_missing_85 rfl) ?_
    refine px (fun _ => pm_aload_n (pc := 86) d_Mo_missing_86 rfl) ?_
    refine px (fun _ => pm_getf fl_Mo_29 (pc := 87) d_Mo_missing_87 H.1 rfl) ?_
    refine px (fun _ => pm_iload_n (pc := 90) d_Mo_missing_90 rfl) ?_
    refine px (fun _ => pm_iald (j := n) (pc := 91) d_Mo_missing_91 H.2.2.2.2.2.2.2.1 (rfl) (b1) (by decide)) ?_
    rw [d1]
    refine px (fun _ => k_Mo_missing_92 (kc1 := 0) (ks1 := 0) (kc := 0) (ks := 0) (av := [.int (nI (gN S n 1))]) (st := [.int (nI k)]) H.1 (m_arity hl H (by omega)) rfl rfl (Nat.le_of_ble_eq_true rfl)) ?_
    refine pxb (fun _ => pm_icmp_ge (pc := 95) (tgt := 132) d_Mo_missing_95 (by decide)) (fun c_1 => absurd c_1 (fun q => absurd ((nI_leI (a := m_ar (gN S n 1)) (b := k) (by omega) (by omega)).mp q) (by omega))) (fun c_1 => ?_)
    refine px (fun _ => pm_aload_n (pc := 98) d_Mo_missing_98 rfl) ?_
    refine px (fun _ => pm_aload_n (pc := 99) d_Mo_missing_99 rfl) ?_
    refine px (fun _ => pm_getf fl_Mo_47 (pc := 100) d_Mo_missing_100 H.1 rfl) ?_
    refine px (fun _ => pm_iload_n (pc := 103) d_Mo_missing_103 rfl) ?_
    refine px (fun _ => pm_iconst (v := 3) (pc := 104) d_Mo_missing_104 rfl) ?_
    refine px (fun _ => pm_imulN (a := n) (b := 3) (pc := 105) d_Mo_missing_105) ?_
    refine px (fun _ => pm_iload_n (pc := 106) d_Mo_missing_106 rfl) ?_
    refine px (fun _ => pm_iaddN (a := (n * 3)) (b := k) (pc := 107) d_Mo_missing_107) ?_
    refine px (fun _ => pm_iald (j := n * 3 + k) (pc := 108) d_Mo_missing_108 H.2.2.2.2.2.2.2.2.2.2.2.2.2.1 (rfl) (by omega) (by decide)) ?_
    rw [eq]
    refine px (fun _ => k_Mo_missing_109 (kc1 := 0) (ks1 := 0) (kc := 0) (ks := 0) (av := [.int (nI (g_as S n k))]) (st := []) H.1 (m_known hl H hI hr hR hs hk0) rfl rfl (Nat.le_of_ble_eq_true rfl)) ?_
    refine pxn (fun _ => pm_if_ne (pc := 112) (tgt := 126) d_Mo_missing_112 (by decide)) (fun c_2 => ?_) (fun c_2 => ?_)
    · have n_c_2 : g_isT S (g_as S n k) = true := Decidable.byContradiction fun q => c_2 (g_if0.mpr q)
      refine px (fun _ => pm_iinc (x := nI k) (v := nI (k + 1)) (lv' := [(2, .int (nI (k + 1))), (0, .ref (95)), (1, .int (nI n))]) (pc := 126) d_Mo_missing_126 rfl (nI_1 _) (by decide) rfl) ?_
      refine px (fun _ => pm_goto (tgt := 84) (pc := 129) d_Mo_missing_129 (by decide)) ?_
      refine pxd [0, 1, 2] rfl ?_
      have e9 : g_fna S n k (d + 1) = g_fna S n (k + 1) d := by simp only [g_fna]; rw [if_pos (by assumption)]
      rw [e9]
      exact ih (k + 1) (by omega)
    · have n_c_2 : ¬ (g_isT S (g_as S n k) = true) := g_if0.mp c_2
      refine px (fun _ => pm_aload_n (pc := 115) d_Mo_missing_115 rfl) ?_
      refine px (fun _ => pm_getf fl_Mo_47 (pc := 116) d_Mo_missing_116 H.1 rfl) ?_
      refine px (fun _ => pm_iload_n (pc := 119) d_Mo_missing_119 rfl) ?_
      refine px (fun _ => pm_iconst (v := 3) (pc := 120) d_Mo_missing_120 rfl) ?_
      refine px (fun _ => pm_imulN (a := n) (b := 3) (pc := 121) d_Mo_missing_121) ?_
      refine px (fun _ => pm_iload_n (pc := 122) d_Mo_missing_122 rfl) ?_
      refine px (fun _ => pm_iaddN (a := (n * 3)) (b := k) (pc := 123) d_Mo_missing_123) ?_
      refine px (fun _ => pm_iald (j := n * 3 + k) (pc := 124) d_Mo_missing_124 H.2.2.2.2.2.2.2.2.2.2.2.2.2.1 (rfl) (by omega) (by decide)) ?_
      rw [eq]
      exact pxr (pm_iret (pc := 125) d_Mo_missing_125 rfl rfl) (by simp only [g_fna]; rw [if_neg (by assumption)]; rfl)
set_option maxHeartbeats 1000000 in
set_option maxRecDepth 20000 in
theorem m_missing {l : Launch} {G : pm_G} {fi : Bool} {h : pm_H} {S : gS} {T : mS} {n : Nat} (hl : l.stackTraces = false) (H : mH T h) (hI : gI S) (hr : gG S 1 = 1) (hR : gR S T) (hn : n < gG S 0) : pm_En l G fi fi 0 0 M_Mo_missing [.ref 95, .int (nI n)] h (.inl (some (.int (g_oi (g_fn1 S n)))), h) := by
  refine pm_Cn.eq (pm_Cn.of hl (by decide) (Nat.le_of_ble_eq_true rfl) ?_)
  obtain ⟨b1, b2, b3, b4, b5, b6, b7⟩ := hI.arr hn
  obtain ⟨d1, d2, d3, d4, d5, d6, d7⟩ := hR.1.2.2.2.2 n hn
  have am := m_ar_g (gN S n 1) (by omega)
  have hV := hI.2.1
  have dq : ∀ k, k < gN S n 0 → mQ T 12 (n * 3 + k) = nI (g_as S n k) := fun k hk => m_dq (hR.1.2.2.2.2 n hn) (hV n hn k hk).1 (by omega)
  by_cases h17 : gN S n 1 = 17
  · have k17 : nI (mA T 6 n) = 17 := by rw [d1, h17]; rfl
    have har : gN S n 0 = 3 := by rw [b4, h17]; rfl
    have q0 := dq 0 (by omega)
    have q1 := dq 1 (by omega)
    have q2 := dq 2 (by omega)
    have hc := b7 2 (by omega)
    have hb := b7 1 (by omega)
    have ha := b7 0 (by omega)
    have e17 : g_fn1 S n = g_fnc S n := by unfold g_fn1; rw [if_pos h17]
    rw [e17]
    unfold g_fnc
    refine px (fun _ => pm_aload_n (pc := 0) d_Mo_missing_0 rfl) ?_
    refine px (fun _ => pm_getf fl_Mo_29 (pc := 1) d_Mo_missing_1 H.1 rfl) ?_
    refine px (fun _ => pm_iload_n (pc := 4) d_Mo_missing_4 rfl) ?_
    refine px (fun _ => pm_iald (j := n) (pc := 5) d_Mo_missing_5 H.2.2.2.2.2.2.2.1 (rfl) (b1) (by decide)) ?_
    refine px (fun _ => pm_bipush (v := 17) (pc := 6) d_Mo_missing_6 rfl) ?_
    refine pxn (fun _ => pm_icmp_ne (pc := 8) (tgt := 82) d_Mo_missing_8 (by decide)) (fun c_1 => absurd (k17) c_1) (fun c_1 => ?_)
    refine px (fun _ => pm_aload_n (pc := 11) d_Mo_missing_11 rfl) ?_
    refine px (fun _ => pm_getf fl_Mo_47 (pc := 12) d_Mo_missing_12 H.1 rfl) ?_
    refine px (fun _ => pm_iload_n (pc := 15) d_Mo_missing_15 rfl) ?_
    refine px (fun _ => pm_iconst (v := 3) (pc := 16) d_Mo_missing_16 rfl) ?_
    refine px (fun _ => pm_imulN (a := n) (b := 3) (pc := 17) d_Mo_missing_17) ?_
    refine px (fun _ => pm_iconst (v := 2) (pc := 18) d_Mo_missing_18 rfl) ?_
    refine px (fun _ => pm_iaddN (a := (n * 3)) (b := 2) (pc := 19) d_Mo_missing_19) ?_
    refine px (fun _ => pm_iald (j := n * 3 + 2) (pc := 20) d_Mo_missing_20 H.2.2.2.2.2.2.2.2.2.2.2.2.2.1 (rfl) (by omega) (by decide)) ?_
    rw [q2]
    refine px (fun _ => pm_istore_n (lv' := [(2, .int (nI (g_as S n 2))), (0, .ref (95)), (1, .int (nI n))]) (pc := 21) d_Mo_missing_21 (by decide) rfl) ?_
    refine px (fun _ => pm_aload_n (pc := 22) d_Mo_missing_22 rfl) ?_
    refine px (fun _ => pm_iload_n (pc := 23) d_Mo_missing_23 rfl) ?_
    refine px (fun _ => k_Mo_missing_24 (kc1 := 0) (ks1 := 0) (kc := 0) (ks := 0) (av := [.int (nI (g_as S n 2))]) (st := []) H.1 (m_known hl H hI hr hR hc (hI.kinds hr hn (by omega))) rfl rfl (Nat.le_of_ble_eq_true rfl)) ?_
    refine pxn (fun _ => pm_if_ne (pc := 27) (tgt := 32) d_Mo_missing_27 (by decide)) (fun c_2 => ?_) (fun c_2 => ?_)
    · have n_c_2 : g_isT S (g_as S n 2) = true := Decidable.byContradiction fun q => c_2 (g_if0.mpr q)
      refine px (fun _ => pm_aload_n (pc := 32) d_Mo_missing_32 rfl) ?_
      refine px (fun _ => pm_getf fl_Mo_25 (pc := 33) d_Mo_missing_33 H.1 rfl) ?_
      refine px (fun _ => pm_iload_n (pc := 36) d_Mo_missing_36 rfl) ?_
      refine px (fun _ => pm_bipush (v := 16) (pc := 37) d_Mo_missing_37 rfl) ?_
      refine px (fun _ => pm_imulN (a := (g_as S n 2)) (b := 16) (pc := 39) d_Mo_missing_39) ?_
      refine px (fun _ => pm_dald (j := g_as S n 2 * 16) (pc := 40) d_Mo_missing_40 H.2.2.2.2.2.2.1 (rfl) (by omega) (by decide)) ?_
      have tc := g_isT_iff.mp (show g_isT S (g_as S n 2) = true by assumption)
      have rc := hI.1.rng hc
      have cc0 : mV T (g_as S n 2 * 16) = gC S (g_as S n 2) (0 * 4 + 0) := hR.2.2.2.2.2.2 _ hc tc 0 0 rc.1 rc.2.2.1
      rw [cc0]
      refine px (fun _ => pm_dconst0 (pc := 41) d_Mo_missing_41) ?_
      refine px (fun _ => pm_dcmp (pc := 42) d_Mo_missing_42) ?_
      refine pxb (fun _ => pm_if_eq (pc := 43) (tgt := 57) d_Mo_missing_43 (by decide)) (fun c_3 => ?_) (fun c_3 => ?_)
      · refine px (fun _ => pm_aload_n (pc := 57) d_Mo_missing_57 rfl) ?_
        refine px (fun _ => pm_getf fl_Mo_47 (pc := 58) d_Mo_missing_58 H.1 rfl) ?_
        refine px (fun _ => pm_iload_n (pc := 61) d_Mo_missing_61 rfl) ?_
        refine px (fun _ => pm_iconst (v := 3) (pc := 62) d_Mo_missing_62 rfl) ?_
        refine px (fun _ => pm_imulN (a := n) (b := 3) (pc := 63) d_Mo_missing_63) ?_
        refine px (fun _ => pm_iconst (v := 1) (pc := 64) d_Mo_missing_64 rfl) ?_
        refine px (fun _ => pm_iaddN (a := (n * 3)) (b := 1) (pc := 65) d_Mo_missing_65) ?_
        refine px (fun _ => pm_iald (j := n * 3 + 1) (pc := 66) d_Mo_missing_66 H.2.2.2.2.2.2.2.2.2.2.2.2.2.1 (rfl) (by omega) (by decide)) ?_
        rw [q1]
        refine px (fun _ => pm_istore_n (lv' := [(3, .int (nI (g_as S n 1))), (2, .int (nI (g_as S n 2))), (0, .ref (95)), (1, .int (nI n))]) (pc := 67) d_Mo_missing_67 (by decide) rfl) ?_
        refine px (fun _ => pm_aload_n (pc := 68) d_Mo_missing_68 rfl) ?_
        refine px (fun _ => pm_iload_n (pc := 69) d_Mo_missing_69 rfl) ?_
        refine px (fun _ => k_Mo_missing_70 (kc1 := 0) (ks1 := 0) (kc := 0) (ks := 0) (av := [.int (nI (g_as S n 1))]) (st := []) H.1 (m_known hl H hI hr hR hb (hI.kinds hr hn (by omega))) rfl rfl (Nat.le_of_ble_eq_true rfl)) ?_
        refine pxb (fun _ => pm_if_eq (pc := 73) (tgt := 80) d_Mo_missing_73 (by decide)) (fun c_4 => ?_) (fun c_4 => ?_)
        · have n_c_4 : ¬ (g_isT S (g_as S n 1) = true) := g_if0.mp c_4
          refine px (fun _ => pm_iload_n (pc := 80) d_Mo_missing_80 rfl) ?_
          have cz : (if fEq (gC S (g_as S n 2) (0 * 4 + 0)) FP.dconst0 then 1 else 0) = 1 := if_pos (by assumption)
          exact pxr (pm_iret (pc := 81) d_Mo_missing_81 rfl rfl) (by rw [if_pos (show g_isT S (g_as S n 2) = true by assumption), cz, if_neg (by assumption)]; rfl)
        · have n_c_4 : g_isT S (g_as S n 1) = true := Decidable.byContradiction fun q => c_4 (g_if0.mpr q)
          refine px (fun _ => pm_iconst (v := -1) (pc := 76) d_Mo_missing_76 rfl) ?_
          refine px (fun _ => pm_goto (tgt := 81) (pc := 77) d_Mo_missing_77 (by decide)) ?_
          have cz : (if fEq (gC S (g_as S n 2) (0 * 4 + 0)) FP.dconst0 then 1 else 0) = 1 := if_pos (by assumption)
          exact pxr (pm_iret (pc := 81) d_Mo_missing_81 rfl rfl) (by rw [if_pos (show g_isT S (g_as S n 2) = true by assumption), cz, if_pos (by assumption)]; rfl)
      · refine px (fun _ => pm_aload_n (pc := 46) d_Mo_missing_46 rfl) ?_
        refine px (fun _ => pm_getf fl_Mo_47 (pc := 47) d_Mo_missing_47 H.1 rfl) ?_
        refine px (fun _ => pm_iload_n (pc := 50) d_Mo_missing_50 rfl) ?_
        refine px (fun _ => pm_iconst (v := 3) (pc := 51) d_Mo_missing_51 rfl) ?_
        refine px (fun _ => pm_imulN (a := n) (b := 3) (pc := 52) d_Mo_missing_52) ?_
        refine px (fun _ => pm_iald (j := n * 3) (pc := 53) d_Mo_missing_53 H.2.2.2.2.2.2.2.2.2.2.2.2.2.1 (rfl) (by omega) (by decide)) ?_
        rw [show mQ T 12 (n * 3) = nI (g_as S n 0) from q0]
        refine px (fun _ => pm_goto (tgt := 67) (pc := 54) d_Mo_missing_54 (by decide)) ?_
        refine px (fun _ => pm_istore_n (lv' := [(3, .int (nI (g_as S n 0))), (2, .int (nI (g_as S n 2))), (0, .ref (95)), (1, .int (nI n))]) (pc := 67) d_Mo_missing_67 (by decide) rfl) ?_
        refine px (fun _ => pm_aload_n (pc := 68) d_Mo_missing_68 rfl) ?_
        refine px (fun _ => pm_iload_n (pc := 69) d_Mo_missing_69 rfl) ?_
        refine px (fun _ => k_Mo_missing_70 (kc1 := 0) (ks1 := 0) (kc := 0) (ks := 0) (av := [.int (nI (g_as S n 0))]) (st := []) H.1 (m_known hl H hI hr hR ha (hI.kinds hr hn (by omega))) rfl rfl (Nat.le_of_ble_eq_true rfl)) ?_
        refine pxb (fun _ => pm_if_eq (pc := 73) (tgt := 80) d_Mo_missing_73 (by decide)) (fun c_5 => ?_) (fun c_5 => ?_)
        · have n_c_5 : ¬ (g_isT S (g_as S n 0) = true) := g_if0.mp c_5
          refine px (fun _ => pm_iload_n (pc := 80) d_Mo_missing_80 rfl) ?_
          have cz : (if fEq (gC S (g_as S n 2) (0 * 4 + 0)) FP.dconst0 then 1 else 0) = 0 := if_neg (by assumption)
          exact pxr (pm_iret (pc := 81) d_Mo_missing_81 rfl rfl) (by rw [if_pos (show g_isT S (g_as S n 2) = true by assumption), cz, if_neg (by assumption)]; rfl)
        · have n_c_5 : g_isT S (g_as S n 0) = true := Decidable.byContradiction fun q => c_5 (g_if0.mpr q)
          refine px (fun _ => pm_iconst (v := -1) (pc := 76) d_Mo_missing_76 rfl) ?_
          refine px (fun _ => pm_goto (tgt := 81) (pc := 77) d_Mo_missing_77 (by decide)) ?_
          have cz : (if fEq (gC S (g_as S n 2) (0 * 4 + 0)) FP.dconst0 then 1 else 0) = 0 := if_neg (by assumption)
          exact pxr (pm_iret (pc := 81) d_Mo_missing_81 rfl rfl) (by rw [if_pos (show g_isT S (g_as S n 2) = true by assumption), cz, if_pos (by assumption)]; rfl)
    · have n_c_2 : ¬ (g_isT S (g_as S n 2) = true) := g_if0.mp c_2
      refine px (fun _ => pm_iload_n (pc := 30) d_Mo_missing_30 rfl) ?_
      exact pxr (pm_iret (pc := 31) d_Mo_missing_31 rfl rfl) (by rw [if_neg (by assumption)]; rfl)
  · have k17 : ¬ nI (mA T 6 n) = 17 := fun q => h17 ((nI_eq (a := gN S n 1) (b := 17) (by omega) (by omega)).mp (by rw [← d1]; exact q))
    have e17 : g_fn1 S n = g_fna S n 0 (gN S n 0) := by unfold g_fn1; rw [if_neg h17]
    rw [e17]
    refine px (fun _ => pm_aload_n (pc := 0) d_Mo_missing_0 rfl) ?_
    refine px (fun _ => pm_getf fl_Mo_29 (pc := 1) d_Mo_missing_1 H.1 rfl) ?_
    refine px (fun _ => pm_iload_n (pc := 4) d_Mo_missing_4 rfl) ?_
    refine px (fun _ => pm_iald (j := n) (pc := 5) d_Mo_missing_5 H.2.2.2.2.2.2.2.1 (rfl) (b1) (by decide)) ?_
    refine px (fun _ => pm_bipush (v := 17) (pc := 6) d_Mo_missing_6 rfl) ?_
    refine pxn (fun _ => pm_icmp_ne (pc := 8) (tgt := 82) d_Mo_missing_8 (by decide)) (fun c_1 => ?_) (fun c_1 => absurd c_1 (k17))
    refine px (fun _ => pm_iconst (v := 0) (pc := 82) d_Mo_missing_82 rfl) ?_
    refine px (fun _ => pm_istore_n (lv' := [(2, .int (0)), (0, .ref (95)), (1, .int (nI n))]) (pc := 83) d_Mo_missing_83 (by decide) rfl) ?_
    refine pxd [0, 1, 2] rfl ?_
    exact lp_miss hl H hI hr hR hn (gN S n 0) 0 (by omega)
set_option maxHeartbeats 1000000 in
set_option maxRecDepth 20000 in
theorem lp_down {l : Launch} {G : pm_G} {fi : Bool} {Post : pm_O × pm_H → Prop} {h : pm_H} {S : gS} {T : mS} {s m c : Nat} (hl : l.stackTraces = false) (H : mH T h) (hI : gI S) (hr : gG S 1 = 1) (hR : gR S T) (hs : s < 20) (pa : gPa S s m) (hm : 1 ≤ m) (e1 : g_fn1 S (gP S (m - 1)) = none) (K : pm_Px l G fi fi 0 0 M_Mo_need 46 [(3, .int (nI (gP S (m - 1)))), (2, .int (nI c)), (0, .ref (95)), (1, .int (nI s))] [] h Post) : ∀ (d i : Nat), i + d = m - 1 → pm_Px l G fi fi 0 0 M_Mo_need 24 [(3, .int (nI (gP S i))), (2, .int (nI c)), (0, .ref (95)), (1, .int (nI s))] [] h Post := by
  intro d
  induction d with
  | zero =>
    intro i hd
    obtain rfl : i = m - 1 := by omega
    have hn := (pa.2.2 (m - 1) (by omega)).1
    refine px (fun _ => pm_aload_n (pc := 24) d_Mo_need_24 rfl) ?_
    refine px (fun _ => pm_iload_n (pc := 25) d_Mo_need_25 rfl) ?_
    refine px (fun _ => k_Mo_need_26 (kc1 := 0) (ks1 := 0) (kc := 0) (ks := 0) (av := [.int (nI (gP S (m - 1)))]) (st := []) H.1 ((by have k9 := m_missing (l := l) (G := G) (fi := fi) hl H hI hr hR hn; rw [e1] at k9; exact k9)) rfl rfl (Nat.le_of_ble_eq_true rfl)) ?_
    refine pxb (fun _ => pm_if_lt (pc := 29) (tgt := 46) d_Mo_need_29 (by decide)) (fun c_1 => ?_) (fun c_1 => absurd (by decide) c_1)
    refine pxd [0, 1, 2, 3] rfl ?_
    exact K
  | succ d ih =>
    intro i hd
    have hn := (pa.2.2 i (by omega)).1
    obtain ⟨t, e2, e3⟩ := pa.2.1 i (by omega)
    obtain ⟨pos, p1, p2, p3⟩ := (hI.2.2.2.2.2.2.1 hr).1
    obtain ⟨t20, t3, -, -, -⟩ := hI.need hr p3 hn e2
    have m9 : mA T 4 t = gP S (i + 1) := ((hR.1.2.2.2.1 t t20).2 t3).trans e3
    refine px (fun _ => pm_aload_n (pc := 24) d_Mo_need_24 rfl) ?_
    refine px (fun _ => pm_iload_n (pc := 25) d_Mo_need_25 rfl) ?_
    refine px (fun _ => k_Mo_need_26 (kc1 := 0) (ks1 := 0) (kc := 0) (ks := 0) (av := [.int (nI (gP S i))]) (st := []) H.1 ((by have k9 := m_missing (l := l) (G := G) (fi := fi) hl H hI hr hR hn; rw [e2] at k9; exact k9)) rfl rfl (Nat.le_of_ble_eq_true rfl)) ?_
    refine pxb (fun _ => pm_if_lt (pc := 29) (tgt := 46) d_Mo_need_29 (by decide)) (fun c_1 => absurd c_1 (nI_pos (by omega))) (fun c_1 => ?_)
    refine px (fun _ => pm_aload_n (pc := 32) d_Mo_need_32 rfl) ?_
    refine px (fun _ => pm_getf fl_Mo_22 (pc := 33) d_Mo_need_33 H.1 rfl) ?_
    refine px (fun _ => pm_aload_n (pc := 36) d_Mo_need_36 rfl) ?_
    refine px (fun _ => pm_iload_n (pc := 37) d_Mo_need_37 rfl) ?_
    refine px (fun _ => k_Mo_need_38 (kc1 := 0) (ks1 := 0) (kc := 0) (ks := 0) (av := [.int (nI (gP S i))]) (st := [.ref (100)]) H.1 ((by have k9 := m_missing (l := l) (G := G) (fi := fi) hl H hI hr hR hn; rw [e2] at k9; exact k9)) rfl rfl (Nat.le_of_ble_eq_true rfl)) ?_
    refine px (fun _ => pm_iald (j := t) (pc := 41) d_Mo_need_41 H.2.2.2.2.2.1 (rfl) (t20) (by decide)) ?_
    rw [m9]
    refine px (fun _ => pm_istore_n (lv' := [(3, .int (nI (gP S (i + 1)))), (2, .int (nI c)), (0, .ref (95)), (1, .int (nI s))]) (pc := 42) d_Mo_need_42 (by decide) rfl) ?_
    refine px (fun _ => pm_goto (tgt := 24) (pc := 43) d_Mo_need_43 (by decide)) ?_
    refine pxd [0, 1, 2, 3] rfl ?_
    exact ih (i + 1) (by omega)
set_option maxHeartbeats 1000000 in
set_option maxRecDepth 20000 in
theorem lp_head {l : Launch} {G : pm_G} {fi : Bool} {Post : pm_O × pm_H → Prop} {h : pm_H} {S : gS} {T : mS} {s m c : Nat} (hl : l.stackTraces = false) (H : mH T h) (hI : gI S) (hr : gG S 1 = 1) (hR : gR S T) (hs : s < 20) (pa : gPa S s m) (hm : 1 ≤ m) (hk : ¬ gK S s 0 = 0) (ht : ¬ g_thP S s) (t5 : mG T 5 = 0) (e1 : g_fn1 S (gP S (m - 1)) = none) (K : pm_Px l G fi fi 0 0 M_Mo_need 46 [(3, .int (nI (gP S (m - 1)))), (2, .int (nI c)), (0, .ref (95)), (1, .int (nI s))] [] h Post) : pm_Px l G fi fi 0 0 M_Mo_need 2 [(2, .int (nI c)), (0, .ref (95)), (1, .int (nI s))] [] h Post := by
  have bs := hI.1.2.2.2.2.1 s hs
  have k3 : gK S s 0 = 3 := by
    by_cases q : gK S s 0 = 1 ∨ gK S s 0 = 2
    · exact absurd (Or.inl q) ht
    · omega
  have m9 : mA T 4 s = gP S 0 := ((hR.1.2.2.2.1 s hs).2 k3).trans (pa.1 hm).symm
  refine px (fun _ => pm_aload_n (pc := 2) d_Mo_need_2 rfl) ?_
  refine px (fun _ => pm_getf fl_Mo_57 (pc := 3) d_Mo_need_3 H.1 rfl) ?_
  refine pxn (fun _ => pm_if_ne (pc := 6) (tgt := 98) d_Mo_need_6 (by decide)) (fun c_1 => absurd (by rw [t5]; rfl) c_1) (fun c_1 => ?_)
  refine px (fun _ => pm_aload_n (pc := 9) d_Mo_need_9 rfl) ?_
  refine px (fun _ => pm_iload_n (pc := 10) d_Mo_need_10 rfl) ?_
  refine px (fun _ => k_Mo_need_11 (kc1 := 0) (ks1 := 0) (kc := 0) (ks := 0) (av := [.int (nI s)]) (st := []) H.1 ((by have k9 := m_known (l := l) (G := G) (fi := fi) hl H hI hr hR hs hk; rw [if_neg (g_isT_n ht)] at k9; exact k9)) rfl rfl (Nat.le_of_ble_eq_true rfl)) ?_
  refine pxn (fun _ => pm_if_ne (pc := 14) (tgt := 98) d_Mo_need_14 (by decide)) (fun c_2 => absurd (by decide) c_2) (fun c_2 => ?_)
  refine px (fun _ => pm_aload_n (pc := 17) d_Mo_need_17 rfl) ?_
  refine px (fun _ => pm_getf fl_Mo_22 (pc := 18) d_Mo_need_18 H.1 rfl) ?_
  refine px (fun _ => pm_iload_n (pc := 21) d_Mo_need_21 rfl) ?_
  refine px (fun _ => pm_iald (j := s) (pc := 22) d_Mo_need_22 H.2.2.2.2.2.1 (rfl) (hs) (by decide)) ?_
  rw [m9]
  refine px (fun _ => pm_istore_n (lv' := [(3, .int (nI (gP S 0))), (2, .int (nI c)), (0, .ref (95)), (1, .int (nI s))]) (pc := 23) d_Mo_need_23 (by decide) rfl) ?_
  refine pxd [0, 1, 2, 3] rfl ?_
  exact lp_down hl H hI hr hR hs pa hm e1 K (m - 1) 0 (by omega)
set_option maxHeartbeats 1000000 in
set_option maxRecDepth 20000 in
theorem lp_need {l : Launch} {G : pm_G} {fi : Bool} {Post : pm_O × pm_H → Prop} {h0 : pm_H} {S0 : gS} {s : Nat} (hl : l.stackTraces = false) (hs : s < 20) (hk : ¬ gK S0 s 0 = 0) : ∀ (k m : Nat) (S : gS), gRt S0 s k m S → gRv S0 s k m S → (∀ T h c, mH T h → mFr h0 h → gR S T → mG T 5 = 0 → gG S 2 = gG S0 2 + c → pm_Px l G fi fi 0 0 M_Mo_need 2 [(2, .int (nI c)), (0, .ref 95), (1, .int (nI s))] [] h Post) → ∀ T h c, mH T h → mFr h0 h → gR S0 T → mG T 5 = 0 → gG S0 2 = gG S0 2 + c → pm_Px l G fi fi 0 0 M_Mo_need 2 [(2, .int (nI c)), (0, .ref 95), (1, .int (nI s))] [] h Post := by
  intro k
  induction k with
  | zero =>
    intro m S tr rv K
    rcases tr with ⟨-, rfl⟩ | ⟨-, -, rfl⟩
    · exact K
    · exact fun T h c H F R t5 e => K T h c H F R t5 e
  | succ k ih =>
    intro m' S' tr rv K
    obtain ⟨m, S, tr1, rv1, hm, stp⟩ := tr
    refine ih m S tr1 rv1 ?_
    rcases stp with ⟨t, e1, rfl, rfl⟩ | ⟨f, e1, ge0, gi, rfl, rfl⟩
    · exact fun T h c H F R t5 e => K T h c H F R t5 e
    · intro T h c H F R t5 ec
      obtain ⟨hI, hr, hg, hK, pa, -, -⟩ := rv1
      have ht0 := tr1.k3 k m S hm
      have k0 : ¬ gK S s 0 = 0 := by rw [hK]; exact hk
      have bs := hI.1.2.2.2.2.1 s hs
      have k3 : gK S s 0 = 3 := by
        by_cases q : gK S s 0 = 1 ∨ gK S s 0 = 2
        · exact absurd (Or.inl (by rw [← hK]; exact q)) ht0
        · omega
      have ht : ¬ g_thP S s := by
        rintro (q | ⟨-, q⟩)
        · omega
        · rw [← pa.1 hm] at q; exact (pa.2.2 0 (by omega)).2 q
      refine lp_head hl H hI hr R hs pa hm k0 ht t5 e1 ?_
      have hn := (pa.2.2 (m - 1) (by omega)).1
      have ho := (pa.2.2 (m - 1) (by omega)).2
      generalize gP S (m - 1) = n at *
      have n14 : n < 14 := (hI.arr hn).1
      have ath := g_fn1_ath e1
      obtain ⟨el, to⟩ := gR.el hI hr R hn ath
      obtain ⟨⟨oW, hw⟩, ⟨eW, V, W, rW, HW, FW, ge, vo, vi⟩, enW⟩ := m_work (l := l) (G := G) (fi := fi) hl hI hr hn ath el to H
      dsimp only at rW HW FW
      subst rW
      obtain rfl : eW = 0 := g_end_u ge ge0
      refine px (fun _ => pm_aload_n (pc := 46) d_Mo_need_46 rfl) ?_
      refine px (fun _ => pm_aload_n (pc := 47) d_Mo_need_47 rfl) ?_
      refine px (fun _ => pm_iload_n (pc := 48) d_Mo_need_48 rfl) ?_
      refine px (fun _ => k_Mo_need_49 (kc1 := 0) (ks1 := 0) (kc := 0) (ks := 0) (av := [.int (nI (n))]) (st := [.ref (95)]) H.1 (enW) rfl rfl (Nat.le_of_ble_eq_true rfl)) ?_
      refine px (fun _ => pm_putfC (c' := pm_Ob 4 [.ref (96), .ref (97), .ref (98), .ref (99), .ref (100), .ref (101), .ref (102), .ref (103), .ref (104), .ref (105), .ref (106), .ref (107), .ref (108), .ref (109), .int (nI (mG (msW T V W 0) 0)), .int (nI (mG (msW T V W 0) 1)), .int (nI (mG (msW T V W 0) 2)), .int (nI (mG (msW T V W 0) 3)), .int (nI (mG (msW T V W 0) 4)), .int (nI (m_er 0)), .int (nI (mG (msW T V W 0) 6))]) fp_Mo_57 (pc := 52) d_Mo_need_52 HW.1 (Nat.le_of_ble_eq_true rfl) rfl rfl rfl) ?_
      have H_1 : mH (msG (msW T V W 0) 5 0) (hw.set (95) (pm_Ob 4 [.ref (96), .ref (97), .ref (98), .ref (99), .ref (100), .ref (101), .ref (102), .ref (103), .ref (104), .ref (105), .ref (106), .ref (107), .ref (108), .ref (109), .int (nI (mG (msW T V W 0) 0)), .int (nI (mG (msW T V W 0) 1)), .int (nI (mG (msW T V W 0) 2)), .int (nI (mG (msW T V W 0) 3)), .int (nI (mG (msW T V W 0) 4)), .int (nI (m_er 0)), .int (nI (mG (msW T V W 0) 6))])) := HW.G5 (v := 0)
      refine px (fun _ => pm_aload_n (pc := 55) d_Mo_need_55 rfl) ?_
      refine px (fun _ => pm_getf fl_Mo_57 (pc := 56) d_Mo_need_56 H_1.1 rfl) ?_
      refine pxn (fun _ => pm_if_ne (pc := 59) (tgt := 85) d_Mo_need_59 (by decide)) (fun c_2 => absurd (rfl) c_2) (fun c_2 => ?_)
      refine px (fun _ => pm_aload_n (pc := 62) d_Mo_need_62 rfl) ?_
      refine px (fun _ => pm_getf fl_Mo_41 (pc := 63) d_Mo_need_63 H_1.1 rfl) ?_
      refine px (fun _ => pm_iload_n (pc := 66) d_Mo_need_66 rfl) ?_
      refine px (fun _ => pm_iconst (v := 2) (pc := 67) d_Mo_need_67 rfl) ?_
      refine px (fun _ => pm_iast (j := n) (pc := 68) d_Mo_need_68 H_1.2.2.2.2.2.2.2.2.2.2.2.1 (rfl) (n14) (by decide)) ?_
      have H_3 : mH (msA (msG (msW T V W 0) 5 0) 10 n 2) ((hw.set (95) (pm_Ob 4 [.ref (96), .ref (97), .ref (98), .ref (99), .ref (100), .ref (101), .ref (102), .ref (103), .ref (104), .ref (105), .ref (106), .ref (107), .ref (108), .ref (109), .int (nI (mG (msW T V W 0) 0)), .int (nI (mG (msW T V W 0) 1)), .int (nI (mG (msW T V W 0) 2)), .int (nI (mG (msW T V W 0) 3)), .int (nI (mG (msW T V W 0) 4)), .int (nI (m_er 0)), .int (nI (mG (msW T V W 0) 6))])).set (106) (pm_I 14 (va_up (fun j => nI (mA (msG (msW T V W 0) 5 0) 10 j)) (n) (2)))) := H_1.A10 (j := n) (v := 2)
      refine px (fun _ => pm_aload_n (pc := 69) d_Mo_need_69 rfl) ?_
      refine px (fun _ => pm_dup (pc := 70) d_Mo_need_70 rfl) ?_
      refine px (fun _ => pm_getf fl_Mo_171 (pc := 71) d_Mo_need_71 H_3.1 rfl) ?_
      refine px (fun _ => pm_iconst (v := 1) (pc := 74) d_Mo_need_74 rfl) ?_
      refine px (fun _ => pm_iaddN (a := (mG (msA (msG (msW T V W 0) 5 0) 10 n 2) 2)) (b := 1) (pc := 75) d_Mo_need_75) ?_
      refine px (fun _ => pm_putfC (c' := pm_Ob 4 [.ref (96), .ref (97), .ref (98), .ref (99), .ref (100), .ref (101), .ref (102), .ref (103), .ref (104), .ref (105), .ref (106), .ref (107), .ref (108), .ref (109), .int (nI (mG (msA (msG (msW T V W 0) 5 0) 10 n 2) 0)), .int (nI (mG (msA (msG (msW T V W 0) 5 0) 10 n 2) 1)), .int (nI ((mG (msA (msG (msW T V W 0) 5 0) 10 n 2) 2) + 1)), .int (nI (mG (msA (msG (msW T V W 0) 5 0) 10 n 2) 3)), .int (nI (mG (msA (msG (msW T V W 0) 5 0) 10 n 2) 4)), .int (nI (mG (msA (msG (msW T V W 0) 5 0) 10 n 2) 5)), .int (nI (mG (msA (msG (msW T V W 0) 5 0) 10 n 2) 6))]) fp_Mo_171 (pc := 76) d_Mo_need_76 H_3.1 (Nat.le_of_ble_eq_true rfl) rfl rfl rfl) ?_
      have H_4 : mH (msG (msA (msG (msW T V W 0) 5 0) 10 n 2) 2 (mG T 2 + 1)) (((hw.set (95) (pm_Ob 4 [.ref (96), .ref (97), .ref (98), .ref (99), .ref (100), .ref (101), .ref (102), .ref (103), .ref (104), .ref (105), .ref (106), .ref (107), .ref (108), .ref (109), .int (nI (mG (msW T V W 0) 0)), .int (nI (mG (msW T V W 0) 1)), .int (nI (mG (msW T V W 0) 2)), .int (nI (mG (msW T V W 0) 3)), .int (nI (mG (msW T V W 0) 4)), .int (nI (m_er 0)), .int (nI (mG (msW T V W 0) 6))])).set (106) (pm_I 14 (va_up (fun j => nI (mA (msG (msW T V W 0) 5 0) 10 j)) (n) (2)))).set (95) (pm_Ob 4 [.ref (96), .ref (97), .ref (98), .ref (99), .ref (100), .ref (101), .ref (102), .ref (103), .ref (104), .ref (105), .ref (106), .ref (107), .ref (108), .ref (109), .int (nI (mG (msA (msG (msW T V W 0) 5 0) 10 n 2) 0)), .int (nI (mG (msA (msG (msW T V W 0) 5 0) 10 n 2) 1)), .int (nI ((mG (msA (msG (msW T V W 0) 5 0) 10 n 2) 2) + 1)), .int (nI (mG (msA (msG (msW T V W 0) 5 0) 10 n 2) 3)), .int (nI (mG (msA (msG (msW T V W 0) 5 0) 10 n 2) 4)), .int (nI (mG (msA (msG (msW T V W 0) 5 0) 10 n 2) 5)), .int (nI (mG (msA (msG (msW T V W 0) 5 0) 10 n 2) 6))])) := H_3.G2 (v := mG T 2 + 1)
      refine px (fun _ => pm_iinc (x := nI c) (v := nI (c + 1)) (lv' := [(2, .int (nI (c + 1))), (3, .int (nI (n))), (0, .ref (95)), (1, .int (nI s))]) (pc := 79) d_Mo_need_79 rfl (nI_1 _) (by decide) rfl) ?_
      refine px (fun _ => pm_goto (tgt := 95) (pc := 82) d_Mo_need_82 (by decide)) ?_
      refine px (fun _ => pm_goto (tgt := 2) (pc := 95) d_Mo_need_95 (by decide)) ?_
      refine pxd [0, 2, 3] rfl ?_
      exact K _ _ (c + 1) H_4 (F.tr ((FW).tr (((mFr.set _ _ (by omega))).tr (((mFr.set _ _ (by omega))).tr ((mFr.set _ _ (by omega))))))) (gR_learn0 hI hr R hn ho vo gi (vi rfl)) rfl (by rw [g_lrn0]; show gG S 2 + 1 = _; omega)
set_option maxHeartbeats 1000000 in
set_option maxRecDepth 20000 in
theorem m_need_ok {l : Launch} {G : pm_G} {fi : Bool} {h : pm_H} {S0 S : gS} {T : mS} {s k m : Nat} (hl : l.stackTraces = false) (H : mH T h) (hs : s < 20) (hk : ¬ gK S0 s 0 = 0) (rn : gRn S0 s k m S) (he : g_thP S s) (R : gR S0 T) (t5 : mG T 5 = 0) : pm_Cn l G fi fi 0 0 M_Mo_need [.ref 95, .int (nI s)] h (fun r => ∃ T' c, r.1 = .inl (some (.int (nI c))) ∧ gG S 2 = gG S0 2 + c ∧ mH T' r.2 ∧ mFr h r.2 ∧ gR S T' ∧ mG T' 5 = 0) := by
  refine pm_Cn.of hl (by decide) (Nat.le_of_ble_eq_true rfl) ?_
  refine px (fun _ => pm_iconst (v := 0) (pc := 0) d_Mo_need_0 rfl) ?_
  refine px (fun _ => pm_istore_n (lv' := [(2, .int (0)), (0, .ref (95)), (1, .int (nI s))]) (pc := 1) d_Mo_need_1 (by decide) rfl) ?_
  refine pxd [0, 1, 2] rfl ?_
  refine lp_need (h0 := h) hl hs hk k m S rn.1 rn.2 ?_ T h 0 H (mFr.rf h) R t5 rfl
  intro T7 h7 c H7 F7 R7 t7 e7
  obtain ⟨hI, hr, hg, hK, -, -, -⟩ := id rn.2
  have k0 : ¬ gK S s 0 = 0 := by rw [hK]; exact hk
  refine px (fun _ => pm_aload_n (pc := 2) d_Mo_need_2 rfl) ?_
  refine px (fun _ => pm_getf fl_Mo_57 (pc := 3) d_Mo_need_3 H7.1 rfl) ?_
  refine pxn (fun _ => pm_if_ne (pc := 6) (tgt := 98) d_Mo_need_6 (by decide)) (fun c_1 => absurd (by rw [t7]; rfl) c_1) (fun c_1 => ?_)
  refine px (fun _ => pm_aload_n (pc := 9) d_Mo_need_9 rfl) ?_
  refine px (fun _ => pm_iload_n (pc := 10) d_Mo_need_10 rfl) ?_
  refine px (fun _ => k_Mo_need_11 (kc1 := 0) (ks1 := 0) (kc := 0) (ks := 0) (av := [.int (nI s)]) (st := []) H7.1 ((by have k9 := m_known (l := l) (G := G) (fi := fi) hl H7 hI hr R7 hs k0; rw [if_pos (g_isT_y he)] at k9; exact k9)) rfl rfl (Nat.le_of_ble_eq_true rfl)) ?_
  refine pxn (fun _ => pm_if_ne (pc := 14) (tgt := 98) d_Mo_need_14 (by decide)) (fun c_2 => ?_) (fun c_2 => absurd c_2 (by decide))
  refine px (fun _ => pm_iload_n (pc := 98) d_Mo_need_98 rfl) ?_
  exact pxr (pm_iret (pc := 99) d_Mo_need_99 rfl rfl) ⟨T7, c, rfl, e7, H7, F7, R7, t7⟩
set_option maxHeartbeats 1000000 in
set_option maxRecDepth 20000 in
theorem m_need_e {l : Launch} {G : pm_G} {fi : Bool} {h : pm_H} {S0 S : gS} {T : mS} {s e : Nat} (hl : l.stackTraces = false) (H : mH T h) (hs : s < 20) (hk : ¬ gK S0 s 0 = 0) (bd : gBd S0 s e S) (R : gR S0 T) (t5 : mG T 5 = 0) : pm_Cn l G fi fi 0 0 M_Mo_need [.ref 95, .int (nI s)] h (fun r => ∃ T' c, r.1 = .inl (some (.int (nI c))) ∧ mH T' r.2 ∧ mFr h r.2 ∧ gR S T' ∧ mG T' 5 = m_er e ∧ gI S) := by
  refine pm_Cn.of hl (by decide) (Nat.le_of_ble_eq_true rfl) ?_
  obtain ⟨k, m, S1, f, rn, hm, e1, ge0, e0, rfl⟩ := bd
  refine px (fun _ => pm_iconst (v := 0) (pc := 0) d_Mo_need_0 rfl) ?_
  refine px (fun _ => pm_istore_n (lv' := [(2, .int (0)), (0, .ref (95)), (1, .int (nI s))]) (pc := 1) d_Mo_need_1 (by decide) rfl) ?_
  refine pxd [0, 1, 2] rfl ?_
  refine lp_need (h0 := h) hl hs hk k m S1 rn.1 rn.2 ?_ T h 0 H (mFr.rf h) R t5 rfl
  intro T7 h7 c H7 F7 R7 t7 e7
  have ht0 := rn.1.k3 k m S1 hm
  obtain ⟨hI, hr, hg, hK, pa, -, -⟩ := id rn.2
  have k0 : ¬ gK S1 s 0 = 0 := by rw [hK]; exact hk
  have bs := hI.1.2.2.2.2.1 s hs
  have k3 : gK S1 s 0 = 3 := by
    by_cases q : gK S1 s 0 = 1 ∨ gK S1 s 0 = 2
    · exact absurd (Or.inl (by rw [← hK]; exact q)) ht0
    · omega
  have ht : ¬ g_thP S1 s := by
    rintro (q | ⟨-, q⟩)
    · omega
    · rw [← pa.1 hm] at q; exact (pa.2.2 0 (by omega)).2 q
  refine lp_head hl H7 hI hr R7 hs pa hm k0 ht t7 e1 ?_
  have hn := (pa.2.2 (m - 1) (by omega)).1
  have ho := (pa.2.2 (m - 1) (by omega)).2
  generalize gP S1 (m - 1) = n at *
  have n14 : n < 14 := (hI.arr hn).1
  have ath := g_fn1_ath e1
  obtain ⟨el, to⟩ := gR.el hI hr R7 hn ath
  obtain ⟨⟨oW, hw⟩, ⟨eW, V, W, rW, HW, FW, ge, vo, vi⟩, enW⟩ := m_work (l := l) (G := G) (fi := fi) hl hI hr hn ath el to H7
  dsimp only at rW HW FW
  subst rW
  obtain rfl : eW = e := g_end_u ge ge0
  have n7 : ¬ nI (m_er eW) = 0 := by have l7 := g_end_le ge0; unfold m_er; rw [if_neg e0]; exact nI_ne0 (by omega) (by omega)
  refine px (fun _ => pm_aload_n (pc := 46) d_Mo_need_46 rfl) ?_
  refine px (fun _ => pm_aload_n (pc := 47) d_Mo_need_47 rfl) ?_
  refine px (fun _ => pm_iload_n (pc := 48) d_Mo_need_48 rfl) ?_
  refine px (fun _ => k_Mo_need_49 (kc1 := 0) (ks1 := 0) (kc := 0) (ks := 0) (av := [.int (nI (n))]) (st := [.ref (95)]) H7.1 (enW) rfl rfl (Nat.le_of_ble_eq_true rfl)) ?_
  refine px (fun _ => pm_putfC (c' := pm_Ob 4 [.ref (96), .ref (97), .ref (98), .ref (99), .ref (100), .ref (101), .ref (102), .ref (103), .ref (104), .ref (105), .ref (106), .ref (107), .ref (108), .ref (109), .int (nI (mG (msW T7 V W (m_er eW)) 0)), .int (nI (mG (msW T7 V W (m_er eW)) 1)), .int (nI (mG (msW T7 V W (m_er eW)) 2)), .int (nI (mG (msW T7 V W (m_er eW)) 3)), .int (nI (mG (msW T7 V W (m_er eW)) 4)), .int (nI (m_er eW)), .int (nI (mG (msW T7 V W (m_er eW)) 6))]) fp_Mo_57 (pc := 52) d_Mo_need_52 HW.1 (Nat.le_of_ble_eq_true rfl) rfl rfl rfl) ?_
  have H_1 : mH (msG (msW T7 V W (m_er eW)) 5 ((m_er eW))) (hw.set (95) (pm_Ob 4 [.ref (96), .ref (97), .ref (98), .ref (99), .ref (100), .ref (101), .ref (102), .ref (103), .ref (104), .ref (105), .ref (106), .ref (107), .ref (108), .ref (109), .int (nI (mG (msW T7 V W (m_er eW)) 0)), .int (nI (mG (msW T7 V W (m_er eW)) 1)), .int (nI (mG (msW T7 V W (m_er eW)) 2)), .int (nI (mG (msW T7 V W (m_er eW)) 3)), .int (nI (mG (msW T7 V W (m_er eW)) 4)), .int (nI (m_er eW)), .int (nI (mG (msW T7 V W (m_er eW)) 6))])) := HW.G5 (v := (m_er eW))
  refine px (fun _ => pm_aload_n (pc := 55) d_Mo_need_55 rfl) ?_
  refine px (fun _ => pm_getf fl_Mo_57 (pc := 56) d_Mo_need_56 H_1.1 rfl) ?_
  refine pxn (fun _ => pm_if_ne (pc := 59) (tgt := 85) d_Mo_need_59 (by decide)) (fun c_2 => ?_) (fun c_2 => absurd c_2 (n7))
  refine px (fun _ => pm_aload_n (pc := 85) d_Mo_need_85 rfl) ?_
  refine px (fun _ => pm_dup (pc := 86) d_Mo_need_86 rfl) ?_
  refine px (fun _ => pm_getf fl_Mo_174 (pc := 87) d_Mo_need_87 H_1.1 rfl) ?_
  refine px (fun _ => pm_iconst (v := 1) (pc := 90) d_Mo_need_90 rfl) ?_
  refine px (fun _ => pm_iaddN (a := (mG (msG (msW T7 V W (m_er eW)) 5 ((m_er eW))) 3)) (b := 1) (pc := 91) d_Mo_need_91) ?_
  refine px (fun _ => pm_putfC (c' := pm_Ob 4 [.ref (96), .ref (97), .ref (98), .ref (99), .ref (100), .ref (101), .ref (102), .ref (103), .ref (104), .ref (105), .ref (106), .ref (107), .ref (108), .ref (109), .int (nI (mG (msG (msW T7 V W (m_er eW)) 5 ((m_er eW))) 0)), .int (nI (mG (msG (msW T7 V W (m_er eW)) 5 ((m_er eW))) 1)), .int (nI (mG (msG (msW T7 V W (m_er eW)) 5 ((m_er eW))) 2)), .int (nI ((mG (msG (msW T7 V W (m_er eW)) 5 ((m_er eW))) 3) + 1)), .int (nI (mG (msG (msW T7 V W (m_er eW)) 5 ((m_er eW))) 4)), .int (nI (mG (msG (msW T7 V W (m_er eW)) 5 ((m_er eW))) 5)), .int (nI (mG (msG (msW T7 V W (m_er eW)) 5 ((m_er eW))) 6))]) fp_Mo_174 (pc := 92) d_Mo_need_92 H_1.1 (Nat.le_of_ble_eq_true rfl) rfl rfl rfl) ?_
  have H_3 : mH (msG (msG (msW T7 V W (m_er eW)) 5 ((m_er eW))) 3 (mG T7 3 + 1)) ((hw.set (95) (pm_Ob 4 [.ref (96), .ref (97), .ref (98), .ref (99), .ref (100), .ref (101), .ref (102), .ref (103), .ref (104), .ref (105), .ref (106), .ref (107), .ref (108), .ref (109), .int (nI (mG (msW T7 V W (m_er eW)) 0)), .int (nI (mG (msW T7 V W (m_er eW)) 1)), .int (nI (mG (msW T7 V W (m_er eW)) 2)), .int (nI (mG (msW T7 V W (m_er eW)) 3)), .int (nI (mG (msW T7 V W (m_er eW)) 4)), .int (nI (m_er eW)), .int (nI (mG (msW T7 V W (m_er eW)) 6))])).set (95) (pm_Ob 4 [.ref (96), .ref (97), .ref (98), .ref (99), .ref (100), .ref (101), .ref (102), .ref (103), .ref (104), .ref (105), .ref (106), .ref (107), .ref (108), .ref (109), .int (nI (mG (msG (msW T7 V W (m_er eW)) 5 ((m_er eW))) 0)), .int (nI (mG (msG (msW T7 V W (m_er eW)) 5 ((m_er eW))) 1)), .int (nI (mG (msG (msW T7 V W (m_er eW)) 5 ((m_er eW))) 2)), .int (nI ((mG (msG (msW T7 V W (m_er eW)) 5 ((m_er eW))) 3) + 1)), .int (nI (mG (msG (msW T7 V W (m_er eW)) 5 ((m_er eW))) 4)), .int (nI (mG (msG (msW T7 V W (m_er eW)) 5 ((m_er eW))) 5)), .int (nI (mG (msG (msW T7 V W (m_er eW)) 5 ((m_er eW))) 6))])) := H_1.G3 (v := mG T7 3 + 1)
  refine px (fun _ => pm_goto (tgt := 2) (pc := 95) d_Mo_need_95 (by decide)) ?_
  refine px (fun _ => pm_aload_n (pc := 2) d_Mo_need_2 rfl) ?_
  refine px (fun _ => pm_getf fl_Mo_57 (pc := 3) d_Mo_need_3 H_3.1 rfl) ?_
  refine pxn (fun _ => pm_if_ne (pc := 6) (tgt := 98) d_Mo_need_6 (by decide)) (fun c_4 => ?_) (fun c_4 => absurd c_4 (n7))
  refine px (fun _ => pm_iload_n (pc := 98) d_Mo_need_98 rfl) ?_
  exact pxr (pm_iret (pc := 99) d_Mo_need_99 rfl rfl) ⟨_, c, rfl, H_3, F7.tr ((FW).tr (((mFr.set _ _ (by omega))).tr ((mFr.set _ _ (by omega))))), gR_learnE hI R7 hn ho e0 vo, rfl, gI_learnE hI hn ho e0⟩
set_option maxHeartbeats 1000000 in
set_option maxRecDepth 20000 in
theorem m_run_b1 {l : Launch} {G : pm_G} {fi : Bool} {h : pm_H} {T : mS} {s : Int32} (hl : l.stackTraces = false) (H : mH T h) (hs : s < 0 ∨ 20 ≤ s) : pm_Cn l G fi fi 0 0 M_Mo_run [.ref (95), .int (s)] h (m_P (some (.int 0)) (msG T 5 1) h) := by
  refine pm_Cn.of hl (by decide) (Nat.le_of_ble_eq_true rfl) ?_
  refine px (fun _ => pm_aload_n (pc := 0) d_Mo_run_0 rfl) ?_
  refine px (fun _ => pm_aload_n (pc := 1) d_Mo_run_1 rfl) ?_
  refine px (fun _ => pm_iload_n (pc := 2) d_Mo_run_2 rfl) ?_
  refine px (fun _ => k_Mo_run_3 (kc1 := 0) (ks1 := 0) (kc := 0) (ks := 0) (av := [.int (s)]) (st := [.ref (95)]) H.1 (m_ns_out hl H hs) rfl rfl (Nat.le_of_ble_eq_true rfl)) ?_
  refine pxn (fun _ => pm_if_ne (pc := 6) (tgt := 18) d_Mo_run_6 (by decide)) (fun c_1 => ?_) (fun c_1 => absurd c_1 (by decide))
  refine px (fun _ => pm_iconst (v := 1) (pc := 18) d_Mo_run_18 rfl) ?_
  refine px (fun _ => pm_goto (tgt := 34) (pc := 19) d_Mo_run_19 (by decide)) ?_
  refine px (fun _ => pm_putfC (c' := pm_Ob 4 [.ref (96), .ref (97), .ref (98), .ref (99), .ref (100), .ref (101), .ref (102), .ref (103), .ref (104), .ref (105), .ref (106), .ref (107), .ref (108), .ref (109), .int (nI (mG T 0)), .int (nI (mG T 1)), .int (nI (mG T 2)), .int (nI (mG T 3)), .int (nI (mG T 4)), .int (1), .int (nI (mG T 6))]) fp_Mo_57 (pc := 34) d_Mo_run_34 H.1 (Nat.le_of_ble_eq_true rfl) rfl rfl rfl) ?_
  have H_2 : mH (msG T 5 1) (h.set (95) (pm_Ob 4 [.ref (96), .ref (97), .ref (98), .ref (99), .ref (100), .ref (101), .ref (102), .ref (103), .ref (104), .ref (105), .ref (106), .ref (107), .ref (108), .ref (109), .int (nI (mG T 0)), .int (nI (mG T 1)), .int (nI (mG T 2)), .int (nI (mG T 3)), .int (nI (mG T 4)), .int (1), .int (nI (mG T 6))])) := H.G5 (v := 1)
  refine px (fun _ => pm_aload_n (pc := 37) d_Mo_run_37 rfl) ?_
  refine px (fun _ => pm_getf fl_Mo_57 (pc := 38) d_Mo_run_38 H_2.1 rfl) ?_
  refine pxb (fun _ => pm_if_eq (pc := 41) (tgt := 46) d_Mo_run_41 (by decide)) (fun c_3 => absurd c_3 (fun q => absurd (show nI 1 = 0 from q) (by decide))) (fun c_3 => ?_)
  refine px (fun _ => pm_iconst (v := 0) (pc := 44) d_Mo_run_44 rfl) ?_
  exact pxr (pm_iret (pc := 45) d_Mo_run_45 rfl rfl) ⟨rfl, H_2, (mFr.set _ _ (by omega))⟩
set_option maxHeartbeats 1000000 in
set_option maxRecDepth 20000 in
theorem m_run_b2 {l : Launch} {G : pm_G} {fi : Bool} {h : pm_H} {T : mS} {s : Nat} (hl : l.stackTraces = false) (H : mH T h) (hs : s < 20) (hk : mA T 0 s = 0) : pm_Cn l G fi fi 0 0 M_Mo_run [.ref (95), .int (nI s)] h (m_P (some (.int 0)) (msG T 5 1) h) := by
  refine pm_Cn.of hl (by decide) (Nat.le_of_ble_eq_true rfl) ?_
  refine px (fun _ => pm_aload_n (pc := 0) d_Mo_run_0 rfl) ?_
  refine px (fun _ => pm_aload_n (pc := 1) d_Mo_run_1 rfl) ?_
  refine px (fun _ => pm_iload_n (pc := 2) d_Mo_run_2 rfl) ?_
  refine px (fun _ => k_Mo_run_3 (kc1 := 0) (ks1 := 0) (kc := 0) (ks := 0) (av := [.int (nI s)]) (st := [.ref (95)]) H.1 (m_ns_in hl H hs) rfl rfl (Nat.le_of_ble_eq_true rfl)) ?_
  refine pxn (fun _ => pm_if_ne (pc := 6) (tgt := 18) d_Mo_run_6 (by decide)) (fun c_1 => absurd (by decide) c_1) (fun c_1 => ?_)
  refine px (fun _ => pm_aload_n (pc := 9) d_Mo_run_9 rfl) ?_
  refine px (fun _ => pm_getf fl_Mo_7 (pc := 10) d_Mo_run_10 H.1 rfl) ?_
  refine px (fun _ => pm_iload_n (pc := 13) d_Mo_run_13 rfl) ?_
  refine px (fun _ => pm_iald (j := s) (pc := 14) d_Mo_run_14 H.2.1 (rfl) (hs) (by decide)) ?_
  refine pxn (fun _ => pm_if_ne (pc := 15) (tgt := 22) d_Mo_run_15 (by decide)) (fun c_2 => absurd (by rw [hk]; rfl) c_2) (fun c_2 => ?_)
  refine px (fun _ => pm_iconst (v := 1) (pc := 18) d_Mo_run_18 rfl) ?_
  refine px (fun _ => pm_goto (tgt := 34) (pc := 19) d_Mo_run_19 (by decide)) ?_
  refine px (fun _ => pm_putfC (c' := pm_Ob 4 [.ref (96), .ref (97), .ref (98), .ref (99), .ref (100), .ref (101), .ref (102), .ref (103), .ref (104), .ref (105), .ref (106), .ref (107), .ref (108), .ref (109), .int (nI (mG T 0)), .int (nI (mG T 1)), .int (nI (mG T 2)), .int (nI (mG T 3)), .int (nI (mG T 4)), .int (1), .int (nI (mG T 6))]) fp_Mo_57 (pc := 34) d_Mo_run_34 H.1 (Nat.le_of_ble_eq_true rfl) rfl rfl rfl) ?_
  have H_3 : mH (msG T 5 1) (h.set (95) (pm_Ob 4 [.ref (96), .ref (97), .ref (98), .ref (99), .ref (100), .ref (101), .ref (102), .ref (103), .ref (104), .ref (105), .ref (106), .ref (107), .ref (108), .ref (109), .int (nI (mG T 0)), .int (nI (mG T 1)), .int (nI (mG T 2)), .int (nI (mG T 3)), .int (nI (mG T 4)), .int (1), .int (nI (mG T 6))])) := H.G5 (v := 1)
  refine px (fun _ => pm_aload_n (pc := 37) d_Mo_run_37 rfl) ?_
  refine px (fun _ => pm_getf fl_Mo_57 (pc := 38) d_Mo_run_38 H_3.1 rfl) ?_
  refine pxb (fun _ => pm_if_eq (pc := 41) (tgt := 46) d_Mo_run_41 (by decide)) (fun c_4 => absurd c_4 (fun q => absurd (show nI 1 = 0 from q) (by decide))) (fun c_4 => ?_)
  refine px (fun _ => pm_iconst (v := 0) (pc := 44) d_Mo_run_44 rfl) ?_
  exact pxr (pm_iret (pc := 45) d_Mo_run_45 rfl rfl) ⟨rfl, H_3, (mFr.set _ _ (by omega))⟩
set_option maxHeartbeats 1000000 in
set_option maxRecDepth 20000 in
theorem m_run_b3 {l : Launch} {G : pm_G} {fi : Bool} {h : pm_H} {T : mS} {s : Nat} (hl : l.stackTraces = false) (H : mH T h) (hs : s < 20) (hk : ¬ nI (mA T 0 s) = 0) (hr : mG T 6 = 0) : pm_Cn l G fi fi 0 0 M_Mo_run [.ref (95), .int (nI s)] h (m_P (some (.int 0)) (msG T 5 2) h) := by
  refine pm_Cn.of hl (by decide) (Nat.le_of_ble_eq_true rfl) ?_
  refine px (fun _ => pm_aload_n (pc := 0) d_Mo_run_0 rfl) ?_
  refine px (fun _ => pm_aload_n (pc := 1) d_Mo_run_1 rfl) ?_
  refine px (fun _ => pm_iload_n (pc := 2) d_Mo_run_2 rfl) ?_
  refine px (fun _ => k_Mo_run_3 (kc1 := 0) (ks1 := 0) (kc := 0) (ks := 0) (av := [.int (nI s)]) (st := [.ref (95)]) H.1 (m_ns_in hl H hs) rfl rfl (Nat.le_of_ble_eq_true rfl)) ?_
  refine pxn (fun _ => pm_if_ne (pc := 6) (tgt := 18) d_Mo_run_6 (by decide)) (fun c_1 => absurd (by decide) c_1) (fun c_1 => ?_)
  refine px (fun _ => pm_aload_n (pc := 9) d_Mo_run_9 rfl) ?_
  refine px (fun _ => pm_getf fl_Mo_7 (pc := 10) d_Mo_run_10 H.1 rfl) ?_
  refine px (fun _ => pm_iload_n (pc := 13) d_Mo_run_13 rfl) ?_
  refine px (fun _ => pm_iald (j := s) (pc := 14) d_Mo_run_14 H.2.1 (rfl) (hs) (by decide)) ?_
  refine pxn (fun _ => pm_if_ne (pc := 15) (tgt := 22) d_Mo_run_15 (by decide)) (fun c_2 => ?_) (fun c_2 => absurd c_2 (hk))
  refine px (fun _ => pm_aload_n (pc := 22) d_Mo_run_22 rfl) ?_
  refine px (fun _ => pm_getf fl_Mo_53 (pc := 23) d_Mo_run_23 H.1 rfl) ?_
  refine pxn (fun _ => pm_if_ne (pc := 26) (tgt := 33) d_Mo_run_26 (by decide)) (fun c_3 => absurd (by rw [hr]; rfl) c_3) (fun c_3 => ?_)
  refine px (fun _ => pm_iconst (v := 2) (pc := 29) d_Mo_run_29 rfl) ?_
  refine px (fun _ => pm_goto (tgt := 34) (pc := 30) d_Mo_run_30 (by decide)) ?_
  refine px (fun _ => pm_putfC (c' := pm_Ob 4 [.ref (96), .ref (97), .ref (98), .ref (99), .ref (100), .ref (101), .ref (102), .ref (103), .ref (104), .ref (105), .ref (106), .ref (107), .ref (108), .ref (109), .int (nI (mG T 0)), .int (nI (mG T 1)), .int (nI (mG T 2)), .int (nI (mG T 3)), .int (nI (mG T 4)), .int (2), .int (nI (mG T 6))]) fp_Mo_57 (pc := 34) d_Mo_run_34 H.1 (Nat.le_of_ble_eq_true rfl) rfl rfl rfl) ?_
  have H_4 : mH (msG T 5 2) (h.set (95) (pm_Ob 4 [.ref (96), .ref (97), .ref (98), .ref (99), .ref (100), .ref (101), .ref (102), .ref (103), .ref (104), .ref (105), .ref (106), .ref (107), .ref (108), .ref (109), .int (nI (mG T 0)), .int (nI (mG T 1)), .int (nI (mG T 2)), .int (nI (mG T 3)), .int (nI (mG T 4)), .int (2), .int (nI (mG T 6))])) := H.G5 (v := 2)
  refine px (fun _ => pm_aload_n (pc := 37) d_Mo_run_37 rfl) ?_
  refine px (fun _ => pm_getf fl_Mo_57 (pc := 38) d_Mo_run_38 H_4.1 rfl) ?_
  refine pxb (fun _ => pm_if_eq (pc := 41) (tgt := 46) d_Mo_run_41 (by decide)) (fun c_5 => absurd c_5 (fun q => absurd (show nI 2 = 0 from q) (by decide))) (fun c_5 => ?_)
  refine px (fun _ => pm_iconst (v := 0) (pc := 44) d_Mo_run_44 rfl) ?_
  exact pxr (pm_iret (pc := 45) d_Mo_run_45 rfl rfl) ⟨rfl, H_4, (mFr.set _ _ (by omega))⟩
set_option maxHeartbeats 1000000 in
set_option maxRecDepth 20000 in
theorem m_run_ok {l : Launch} {G : pm_G} {fi : Bool} {h : pm_H} {S0 S : gS} {T : mS} {s k m : Nat} (hl : l.stackTraces = false) (H : mH T h) (hs : s < 20) (hk : ¬ nI (mA T 0 s) = 0) (hk0 : ¬ gK S0 s 0 = 0) (hr : mG T 6 = 1) (rn : gRn S0 s k m S) (he : g_thP S s) (R : gR S0 T) : pm_Cn l G fi fi 0 0 M_Mo_run [.ref 95, .int (nI s)] h (fun r => ∃ T' c, r.1 = .inl (some (.int (nI c))) ∧ gG S 2 = gG S0 2 + c ∧ mH T' r.2 ∧ mFr h r.2 ∧ gR S T' ∧ mG T' 5 = 0) := by
  refine pm_Cn.of hl (by decide) (Nat.le_of_ble_eq_true rfl) ?_
  refine px (fun _ => pm_aload_n (pc := 0) d_Mo_run_0 rfl) ?_
  refine px (fun _ => pm_aload_n (pc := 1) d_Mo_run_1 rfl) ?_
  refine px (fun _ => pm_iload_n (pc := 2) d_Mo_run_2 rfl) ?_
  refine px (fun _ => k_Mo_run_3 (kc1 := 0) (ks1 := 0) (kc := 0) (ks := 0) (av := [.int (nI s)]) (st := [.ref (95)]) H.1 (m_ns_in hl H hs) rfl rfl (Nat.le_of_ble_eq_true rfl)) ?_
  refine pxn (fun _ => pm_if_ne (pc := 6) (tgt := 18) d_Mo_run_6 (by decide)) (fun c_1 => absurd (by decide) c_1) (fun c_1 => ?_)
  refine px (fun _ => pm_aload_n (pc := 9) d_Mo_run_9 rfl) ?_
  refine px (fun _ => pm_getf fl_Mo_7 (pc := 10) d_Mo_run_10 H.1 rfl) ?_
  refine px (fun _ => pm_iload_n (pc := 13) d_Mo_run_13 rfl) ?_
  refine px (fun _ => pm_iald (j := s) (pc := 14) d_Mo_run_14 H.2.1 (rfl) (hs) (by decide)) ?_
  refine pxn (fun _ => pm_if_ne (pc := 15) (tgt := 22) d_Mo_run_15 (by decide)) (fun c_2 => ?_) (fun c_2 => absurd c_2 (hk))
  refine px (fun _ => pm_aload_n (pc := 22) d_Mo_run_22 rfl) ?_
  refine px (fun _ => pm_getf fl_Mo_53 (pc := 23) d_Mo_run_23 H.1 rfl) ?_
  refine pxn (fun _ => pm_if_ne (pc := 26) (tgt := 33) d_Mo_run_26 (by decide)) (fun c_3 => ?_) (fun c_3 => absurd c_3 (by rw [hr]; decide))
  refine px (fun _ => pm_iconst (v := 0) (pc := 33) d_Mo_run_33 rfl) ?_
  refine px (fun _ => pm_putfC (c' := pm_Ob 4 [.ref (96), .ref (97), .ref (98), .ref (99), .ref (100), .ref (101), .ref (102), .ref (103), .ref (104), .ref (105), .ref (106), .ref (107), .ref (108), .ref (109), .int (nI (mG T 0)), .int (nI (mG T 1)), .int (nI (mG T 2)), .int (nI (mG T 3)), .int (nI (mG T 4)), .int (0), .int (nI (mG T 6))]) fp_Mo_57 (pc := 34) d_Mo_run_34 H.1 (Nat.le_of_ble_eq_true rfl) rfl rfl rfl) ?_
  have H_4 : mH (msG T 5 0) (h.set (95) (pm_Ob 4 [.ref (96), .ref (97), .ref (98), .ref (99), .ref (100), .ref (101), .ref (102), .ref (103), .ref (104), .ref (105), .ref (106), .ref (107), .ref (108), .ref (109), .int (nI (mG T 0)), .int (nI (mG T 1)), .int (nI (mG T 2)), .int (nI (mG T 3)), .int (nI (mG T 4)), .int (0), .int (nI (mG T 6))])) := H.G5 (v := 0)
  refine px (fun _ => pm_aload_n (pc := 37) d_Mo_run_37 rfl) ?_
  refine px (fun _ => pm_getf fl_Mo_57 (pc := 38) d_Mo_run_38 H_4.1 rfl) ?_
  refine pxb (fun _ => pm_if_eq (pc := 41) (tgt := 46) d_Mo_run_41 (by decide)) (fun c_5 => ?_) (fun c_5 => absurd (rfl) c_5)
  refine px (fun _ => pm_aload_n (pc := 46) d_Mo_run_46 rfl) ?_
  refine px (fun _ => pm_iload_n (pc := 47) d_Mo_run_47 rfl) ?_
  obtain ⟨⟨oN, hN⟩, ⟨TN, c, eN, cN, HN, FN, RN, t5⟩, enN⟩ := m_need_ok (l := l) (G := G) (fi := fi) (T := msG T 5 0) hl H_4 hs hk0 rn he R rfl
  dsimp only at eN HN FN
  subst eN
  refine px (fun _ => k_Mo_run_48 (kc1 := 0) (ks1 := 0) (kc := 0) (ks := 0) (av := [.int (nI s)]) (st := []) H_4.1 (enN) rfl rfl (Nat.le_of_ble_eq_true rfl)) ?_
  refine px (fun _ => pm_istore_n (lv' := [(2, .int (nI c)), (0, .ref (95)), (1, .int (nI s))]) (pc := 51) d_Mo_run_51 (by decide) rfl) ?_
  refine px (fun _ => pm_aload_n (pc := 52) d_Mo_run_52 rfl) ?_
  refine px (fun _ => pm_getf fl_Mo_57 (pc := 53) d_Mo_run_53 HN.1 rfl) ?_
  refine pxn (fun _ => pm_if_ne (pc := 56) (tgt := 63) d_Mo_run_56 (by decide)) (fun c_6 => absurd (by rw [t5]; rfl) c_6) (fun c_6 => ?_)
  refine px (fun _ => pm_iload_n (pc := 59) d_Mo_run_59 rfl) ?_
  refine px (fun _ => pm_goto (tgt := 64) (pc := 60) d_Mo_run_60 (by decide)) ?_
  exact pxr (pm_iret (pc := 64) d_Mo_run_64 rfl rfl) ⟨TN, c, rfl, cN, HN, ((mFr.set _ _ (by omega))).tr (FN), RN, t5⟩
set_option maxHeartbeats 1000000 in
set_option maxRecDepth 20000 in
theorem m_run_e {l : Launch} {G : pm_G} {fi : Bool} {h : pm_H} {S0 S : gS} {T : mS} {s e : Nat} (hl : l.stackTraces = false) (H : mH T h) (hs : s < 20) (hk : ¬ nI (mA T 0 s) = 0) (hk0 : ¬ gK S0 s 0 = 0) (hr : mG T 6 = 1) (bd : gBd S0 s e S) (R : gR S0 T) : pm_Cn l G fi fi 0 0 M_Mo_run [.ref 95, .int (nI s)] h (fun r => ∃ T', r.1 = .inl (some (.int 0)) ∧ mH T' r.2 ∧ mFr h r.2 ∧ gR S T' ∧ mG T' 5 = m_er e ∧ gI S) := by
  refine pm_Cn.of hl (by decide) (Nat.le_of_ble_eq_true rfl) ?_
  refine px (fun _ => pm_aload_n (pc := 0) d_Mo_run_0 rfl) ?_
  refine px (fun _ => pm_aload_n (pc := 1) d_Mo_run_1 rfl) ?_
  refine px (fun _ => pm_iload_n (pc := 2) d_Mo_run_2 rfl) ?_
  refine px (fun _ => k_Mo_run_3 (kc1 := 0) (ks1 := 0) (kc := 0) (ks := 0) (av := [.int (nI s)]) (st := [.ref (95)]) H.1 (m_ns_in hl H hs) rfl rfl (Nat.le_of_ble_eq_true rfl)) ?_
  refine pxn (fun _ => pm_if_ne (pc := 6) (tgt := 18) d_Mo_run_6 (by decide)) (fun c_1 => absurd (by decide) c_1) (fun c_1 => ?_)
  refine px (fun _ => pm_aload_n (pc := 9) d_Mo_run_9 rfl) ?_
  refine px (fun _ => pm_getf fl_Mo_7 (pc := 10) d_Mo_run_10 H.1 rfl) ?_
  refine px (fun _ => pm_iload_n (pc := 13) d_Mo_run_13 rfl) ?_
  refine px (fun _ => pm_iald (j := s) (pc := 14) d_Mo_run_14 H.2.1 (rfl) (hs) (by decide)) ?_
  refine pxn (fun _ => pm_if_ne (pc := 15) (tgt := 22) d_Mo_run_15 (by decide)) (fun c_2 => ?_) (fun c_2 => absurd c_2 (hk))
  refine px (fun _ => pm_aload_n (pc := 22) d_Mo_run_22 rfl) ?_
  refine px (fun _ => pm_getf fl_Mo_53 (pc := 23) d_Mo_run_23 H.1 rfl) ?_
  refine pxn (fun _ => pm_if_ne (pc := 26) (tgt := 33) d_Mo_run_26 (by decide)) (fun c_3 => ?_) (fun c_3 => absurd c_3 (by rw [hr]; decide))
  refine px (fun _ => pm_iconst (v := 0) (pc := 33) d_Mo_run_33 rfl) ?_
  refine px (fun _ => pm_putfC (c' := pm_Ob 4 [.ref (96), .ref (97), .ref (98), .ref (99), .ref (100), .ref (101), .ref (102), .ref (103), .ref (104), .ref (105), .ref (106), .ref (107), .ref (108), .ref (109), .int (nI (mG T 0)), .int (nI (mG T 1)), .int (nI (mG T 2)), .int (nI (mG T 3)), .int (nI (mG T 4)), .int (0), .int (nI (mG T 6))]) fp_Mo_57 (pc := 34) d_Mo_run_34 H.1 (Nat.le_of_ble_eq_true rfl) rfl rfl rfl) ?_
  have H_4 : mH (msG T 5 0) (h.set (95) (pm_Ob 4 [.ref (96), .ref (97), .ref (98), .ref (99), .ref (100), .ref (101), .ref (102), .ref (103), .ref (104), .ref (105), .ref (106), .ref (107), .ref (108), .ref (109), .int (nI (mG T 0)), .int (nI (mG T 1)), .int (nI (mG T 2)), .int (nI (mG T 3)), .int (nI (mG T 4)), .int (0), .int (nI (mG T 6))])) := H.G5 (v := 0)
  refine px (fun _ => pm_aload_n (pc := 37) d_Mo_run_37 rfl) ?_
  refine px (fun _ => pm_getf fl_Mo_57 (pc := 38) d_Mo_run_38 H_4.1 rfl) ?_
  refine pxb (fun _ => pm_if_eq (pc := 41) (tgt := 46) d_Mo_run_41 (by decide)) (fun c_5 => ?_) (fun c_5 => absurd (rfl) c_5)
  refine px (fun _ => pm_aload_n (pc := 46) d_Mo_run_46 rfl) ?_
  refine px (fun _ => pm_iload_n (pc := 47) d_Mo_run_47 rfl) ?_
  obtain ⟨⟨oN, hN⟩, ⟨TN, c, eN, HN, FN, RN, t5, IN⟩, enN⟩ := m_need_e (l := l) (G := G) (fi := fi) (T := msG T 5 0) hl H_4 hs hk0 bd R rfl
  dsimp only at eN HN FN
  subst eN
  refine px (fun _ => k_Mo_run_48 (kc1 := 0) (ks1 := 0) (kc := 0) (ks := 0) (av := [.int (nI s)]) (st := []) H_4.1 (enN) rfl rfl (Nat.le_of_ble_eq_true rfl)) ?_
  refine px (fun _ => pm_istore_n (lv' := [(2, .int (nI c)), (0, .ref (95)), (1, .int (nI s))]) (pc := 51) d_Mo_run_51 (by decide) rfl) ?_
  refine px (fun _ => pm_aload_n (pc := 52) d_Mo_run_52 rfl) ?_
  refine px (fun _ => pm_getf fl_Mo_57 (pc := 53) d_Mo_run_53 HN.1 rfl) ?_
  refine pxn (fun _ => pm_if_ne (pc := 56) (tgt := 63) d_Mo_run_56 (by decide)) (fun c_6 => ?_) (fun c_6 => absurd c_6 (by obtain ⟨k1, m1, S1, f1, rn1, hm1, e1, ge1, e0, -⟩ := bd; have l7 := g_end_le ge1; rw [t5]; unfold m_er; rw [if_neg e0]; exact nI_ne0 (by omega) (by omega)))
  refine px (fun _ => pm_iconst (v := 0) (pc := 63) d_Mo_run_63 rfl) ?_
  exact pxr (pm_iret (pc := 64) d_Mo_run_64 rfl rfl) ⟨TN, rfl, HN, ((mFr.set _ _ (by omega))).tr (FN), RN, t5, IN⟩
