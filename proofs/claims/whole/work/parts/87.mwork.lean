/-! ===== the model: work ===== -/
theorem m_tb_W (T : mS) (V F : Nat → UInt64) (v t : Nat) : m_tb (msW T V F v) t = msW T V F (if v = 0 then t else v) := by
  unfold m_tb
  have e : mG (msW T V F v) 4 = v := rfl
  rw [e]
  by_cases q : v = 0
  · rw [if_pos q, if_pos q]
    have e2 : va_up (va_up T.1 4 v) 4 t = va_up T.1 4 t := bx_uu _ _ _ _
    show (va_up (va_up T.1 4 v) 4 t, _, _, _, _) = _
    rw [e2]; rfl
  · rw [if_neg q, if_neg q]
theorem m_er0 {e : Nat} (h : m_er e = 0) : e = 0 := by unfold m_er at h; split at h <;> omega
abbrev m_PW (S : gS) (T : mS) (n : Nat) (h : pm_H) : pm_O × pm_H → Prop := fun r => ∃ e V F, r.1 = .inl (some (.int (nI (m_er e)))) ∧ mH (msW T V F (m_er e)) r.2 ∧ mFr h r.2 ∧ g_end S n e ∧ (∀ q, ¬ (gN S n 2 * 16 ≤ q ∧ q < gN S n 2 * 16 + 16) → V q = mV T q) ∧ (e = 0 → ∀ x y, x < gT S (gN S n 2) 1 → y < gT S (gN S n 2) 2 → V (gN S n 2 * 16 + x * 4 + y) = g_En S n x y)
set_option maxHeartbeats 1000000 in
set_option maxRecDepth 20000 in
theorem lp_wi {l : Launch} {G : pm_G} {fi : Bool} {h0 : pm_H} {S : gS} {T : mS} {n i : Nat} {Post : pm_O × pm_H → Prop} (hl : l.stackTraces = false) (hI : gI S) (hr : gG S 1 = 1) (hn : n < gG S 0) (ath : g_ath S n) (he : mEl S T n) (to : mTb S T (gN S n 2)) (hi : i < gT S (gN S n 2) 1) (K : ∀ F v h, mH (msW T (mV T) F v) h → mFr h0 h → m_iv S n F v (i + 1) 0 → pm_Px l G fi fi 0 0 M_Mo_work 14 [(3, .int (nI (i + 1))), (0, .ref (95)), (1, .int (nI n)), (2, .int (nI (gN S n 2)))] [] h Post) : ∀ (d j : Nat) (F : Nat → UInt64) (v : Nat) (h : pm_H), mH (msW T (mV T) F v) h → mFr h0 h → m_iv S n F v i j → j + d = gT S (gN S n 2) 2 → pm_Px l G fi fi 0 0 M_Mo_work 27 [(4, .int (nI j)), (3, .int (nI i)), (0, .ref (95)), (1, .int (nI n)), (2, .int (nI (gN S n 2)))] [] h Post := by
  obtain ⟨b1, b2, b3, b4, b5, b6, b7⟩ := hI.arr hn
  obtain ⟨u1, u2, u3⟩ := id to
  have bo := hI.1.2.2.2.2.1 _ b3
  intro d
  induction d with
  | zero =>
    intro j F v h H R iv hd
    obtain rfl : j = gT S (gN S n 2) 2 := by omega
    refine px (fun _ => pm_iload (pc := 27) d_Mo_work_27 rfl) ?_
    refine px (fun _ => pm_aload_n (pc := 29) d_Mo_work_29 rfl) ?_
    refine px (fun _ => pm_getf fl_Mo_19 (pc := 30) d_Mo_work_30 H.1 rfl) ?_
    refine px (fun _ => pm_iload_n (pc := 33) d_Mo_work_33 rfl) ?_
    refine px (fun _ => pm_iald (j := gN S n 2) (pc := 34) d_Mo_work_34 H.2.2.2.2.1 (rfl) (b3) (by decide)) ?_
    refine pxb (fun _ => pm_icmp_ge (pc := 35) (tgt := 99) d_Mo_work_35 (by decide)) (fun c_1 => ?_) (fun c_1 => absurd ((nI_leI (a := mA T 3 (gN S n 2)) (b := gT S (gN S n 2) 2) (by omega) (by omega)).mpr (by omega)) c_1)
    refine px (fun _ => pm_iinc (x := nI i) (v := nI (i + 1)) (lv' := [(3, .int (nI (i + 1))), (4, .int (nI (gT S (gN S n 2) 2))), (0, .ref (95)), (1, .int (nI n)), (2, .int (nI (gN S n 2)))]) (pc := 99) d_Mo_work_99 rfl (nI_1 _) (by decide) rfl) ?_
    refine px (fun _ => pm_goto (tgt := 14) (pc := 102) d_Mo_work_102 (by decide)) ?_
    refine pxd [0, 2, 3, 4] rfl ?_
    exact K F v h H R iv.row
  | succ d ih =>
    intro j F v h H R iv hd
    have hj : j < gT S (gN S n 2) 2 := by omega
    refine px (fun _ => pm_iload (pc := 27) d_Mo_work_27 rfl) ?_
    refine px (fun _ => pm_aload_n (pc := 29) d_Mo_work_29 rfl) ?_
    refine px (fun _ => pm_getf fl_Mo_19 (pc := 30) d_Mo_work_30 H.1 rfl) ?_
    refine px (fun _ => pm_iload_n (pc := 33) d_Mo_work_33 rfl) ?_
    refine px (fun _ => pm_iald (j := gN S n 2) (pc := 34) d_Mo_work_34 H.2.2.2.2.1 (rfl) (b3) (by decide)) ?_
    refine pxb (fun _ => pm_icmp_ge (pc := 35) (tgt := 99) d_Mo_work_35 (by decide)) (fun c_1 => absurd c_1 (fun q => absurd ((nI_leI (a := mA T 3 (gN S n 2)) (b := j) (by omega) (by omega)).mp q) (by omega))) (fun c_1 => ?_)
    refine px (fun _ => pm_aload_n (pc := 38) d_Mo_work_38 rfl) ?_
    refine px (fun _ => pm_iload_n (pc := 39) d_Mo_work_39 rfl) ?_
    refine px (fun _ => pm_iload_n (pc := 40) d_Mo_work_40 rfl) ?_
    refine px (fun _ => pm_iload (pc := 41) d_Mo_work_41 rfl) ?_
    obtain ⟨⟨oE, hE⟩, ⟨xE, TE, eE, HE, FE, pE⟩, enE⟩ := m_elem (l := l) (G := G) (fi := fi) (T := msW T (mV T) F v) hl H hI hr hn ath (show mEl S (msW T (mV T) F v) n from he) iv.le hi hj
    dsimp only at eE HE FE
    subst eE
    rcases pE with ⟨ok, rfl, rfl⟩ | ⟨nok, rfl, rfl⟩
    · skip
      refine px (fun _ => k_Mo_work_43 (kc1 := 0) (ks1 := 0) (kc := 0) (ks := 0) (av := [.int (nI n), .int (nI i), .int (nI j)]) (st := []) H.1 (enE) rfl rfl (Nat.le_of_ble_eq_true rfl)) ?_
      refine px (fun _ => pm_dstore (lv' := [(5, .double (g_En S n i j)), (4, .int (nI j)), (3, .int (nI i)), (0, .ref (95)), (1, .int (nI n)), (2, .int (nI (gN S n 2)))]) (pc := 46) d_Mo_work_46 (by decide) rfl) ?_
      refine px (fun _ => pm_aload_n (pc := 48) d_Mo_work_48 rfl) ?_
      refine px (fun _ => pm_getf fl_Mo_50 (pc := 49) d_Mo_work_49 HE.1 rfl) ?_
      refine px (fun _ => pm_iload_n (pc := 52) d_Mo_work_52 rfl) ?_
      refine px (fun _ => pm_iconst (v := 4) (pc := 53) d_Mo_work_53 rfl) ?_
      refine px (fun _ => pm_imulN (a := i) (b := 4) (pc := 54) d_Mo_work_54) ?_
      refine px (fun _ => pm_iload (pc := 55) d_Mo_work_55 rfl) ?_
      refine px (fun _ => pm_iaddN (a := (i * 4)) (b := j) (pc := 57) d_Mo_work_57) ?_
      refine px (fun _ => pm_dload (pc := 58) d_Mo_work_58 rfl) ?_
      refine px (fun _ => pm_dast (j := i * 4 + j) (pc := 60) d_Mo_work_60 HE.2.2.2.2.2.2.2.2.2.2.2.2.2.2 (rfl) (by omega) (by decide)) ?_
      have H_2 : mH (msF (msW T (mV T) F v) (i * 4 + j) (g_En S n i j)) (hE.set (109) (pm_Dd 16 (va_up (mF (msW T (mV T) F v)) (i * 4 + j) (g_En S n i j)))) := HE.F (j := i * 4 + j) (v := g_En S n i j)
      refine px (fun _ => pm_aload_n (pc := 61) d_Mo_work_61 rfl) ?_
      refine px (fun _ => pm_getf fl_Mo_13 (pc := 62) d_Mo_work_62 H_2.1 rfl) ?_
      refine px (fun _ => pm_iload_n (pc := 65) d_Mo_work_65 rfl) ?_
      refine px (fun _ => pm_iald (j := gN S n 2) (pc := 66) d_Mo_work_66 H_2.2.2.1 (rfl) (b3) (by decide)) ?_
      refine pxn (fun _ => pm_if_ne (pc := 67) (tgt := 93) d_Mo_work_67 (by decide)) (fun c_3 => ?_) (fun c_3 => ?_)
      · have hv9 : ¬ g_bd S n i j ∧ v = v ∨ g_bd S n i j ∧ v = if v = 0 then m_tv S n else v := Or.inl ⟨fun q => q.elim (fun r => r ok) (fun r => absurd (show nI (mA T 1 (gN S n 2)) = 0 by rw [u1, r.1]; rfl) (by assumption)), rfl⟩
        refine px (fun _ => pm_iinc (x := nI j) (v := nI (j + 1)) (lv' := [(4, .int (nI (j + 1))), (5, .double (g_En S n i j)), (3, .int (nI i)), (0, .ref (95)), (1, .int (nI n)), (2, .int (nI (gN S n 2)))]) (pc := 93) d_Mo_work_93 rfl (nI_1 _) (by decide) rfl) ?_
        refine px (fun _ => pm_goto (tgt := 27) (pc := 96) d_Mo_work_96 (by decide)) ?_
        refine pxd [0, 2, 3, 4, 5] rfl ?_
        exact ih (j + 1) (va_up F (i * 4 + j) (g_En S n i j)) v _ H_2 (R.tr ((FE).tr ((mFr.set _ _ (by omega))))) (iv.step (by omega) hi hj (fun _ => rfl) hv9) (by omega)
      · refine px (fun _ => pm_dload (pc := 70) d_Mo_work_70 rfl) ?_
        refine px (fun _ => pm_ldc2d (pc := 72) d_Mo_work_72 tw_802) ?_
        refine px (fun _ => pm_dcmp (pc := 75) d_Mo_work_75) ?_
        refine pxb (fun _ => pm_if_gt (pc := 76) (tgt := 88) d_Mo_work_76 (by decide)) (fun c_4 => ?_) (fun c_4 => ?_)
        · refine px (fun _ => pm_aload_n (pc := 88) d_Mo_work_88 rfl) ?_
          refine px (fun _ => pm_iconst (v := 3) (pc := 89) d_Mo_work_89 rfl) ?_
          obtain ⟨⟨o5, h5⟩, ⟨e5, H5, F5⟩, en5⟩ := m_trouble3 (l := l) (G := G) (fi := fi) (T := msF (msW T (mV T) F v) (i * 4 + j) (g_En S n i j)) hl H_2 iv.le
          dsimp only at e5 H5 F5
          subst e5
          refine px (fun _ => k_Mo_work_90 (kc1 := 0) (ks1 := 0) (kc := 0) (ks := 0) (av := [.int (3)]) (st := []) H_2.1 (en5) rfl rfl (Nat.le_of_ble_eq_true rfl)) ?_
          have big : g_big (g_En S n i j) := by first | exact Or.inl (by assumption) | exact Or.inr (by assumption)
          have t9 : nI (mA T 1 (gN S n 2)) = 0 := by assumption
          rw [u1] at t9
          have t0 : gT S (gN S n 2) 0 = 0 := (nI_eq (a := gT S (gN S n 2) 0) (b := 0) (by omega) (by omega)).mp t9
          have tv : m_tv S n = 3 := by unfold m_tv; exact if_neg (fun q => hI.pick hr hn ath q hi hj ok ⟨t0, big⟩)
          have H9 : mH (m_tb (msW T (mV T) (va_up F (i * 4 + j) (g_En S n i j)) v) 3) h5 := H5
          rw [m_tb_W, ← tv] at H9
          have hv9 : ¬ g_bd S n i j ∧ (if v = 0 then m_tv S n else v) = v ∨ g_bd S n i j ∧ (if v = 0 then m_tv S n else v) = if v = 0 then m_tv S n else v := Or.inr ⟨Or.inr ⟨t0, big⟩, rfl⟩
          refine px (fun _ => pm_iinc (x := nI j) (v := nI (j + 1)) (lv' := [(4, .int (nI (j + 1))), (5, .double (g_En S n i j)), (3, .int (nI i)), (0, .ref (95)), (1, .int (nI n)), (2, .int (nI (gN S n 2)))]) (pc := 93) d_Mo_work_93 rfl (nI_1 _) (by decide) rfl) ?_
          refine px (fun _ => pm_goto (tgt := 27) (pc := 96) d_Mo_work_96 (by decide)) ?_
          refine pxd [0, 2, 3, 4, 5] rfl ?_
          exact ih (j + 1) (va_up F (i * 4 + j) (g_En S n i j)) (if v = 0 then m_tv S n else v) _ H9 (R.tr ((FE).tr (((mFr.set _ _ (by omega))).tr (F5)))) (iv.step (by omega) hi hj (fun _ => rfl) hv9) (by omega)
        · refine px (fun _ => pm_dload (pc := 79) d_Mo_work_79 rfl) ?_
          refine px (fun _ => pm_ldc2d (pc := 81) d_Mo_work_81 tw_803) ?_
          refine px (fun _ => pm_dcmp (pc := 84) d_Mo_work_84) ?_
          refine pxb (fun _ => pm_if_ge (pc := 85) (tgt := 93) d_Mo_work_85 (by decide)) (fun c_6 => ?_) (fun c_6 => ?_)
          · have hv9 : ¬ g_bd S n i j ∧ v = v ∨ g_bd S n i j ∧ v = if v = 0 then m_tv S n else v := Or.inl ⟨fun q => q.elim (fun r => r ok) (fun r => r.2.elim (by assumption) (fun r => r (by assumption))), rfl⟩
            refine px (fun _ => pm_iinc (x := nI j) (v := nI (j + 1)) (lv' := [(4, .int (nI (j + 1))), (5, .double (g_En S n i j)), (3, .int (nI i)), (0, .ref (95)), (1, .int (nI n)), (2, .int (nI (gN S n 2)))]) (pc := 93) d_Mo_work_93 rfl (nI_1 _) (by decide) rfl) ?_
            refine px (fun _ => pm_goto (tgt := 27) (pc := 96) d_Mo_work_96 (by decide)) ?_
            refine pxd [0, 2, 3, 4, 5] rfl ?_
            exact ih (j + 1) (va_up F (i * 4 + j) (g_En S n i j)) v _ H_2 (R.tr ((FE).tr ((mFr.set _ _ (by omega))))) (iv.step (by omega) hi hj (fun _ => rfl) hv9) (by omega)
          · refine px (fun _ => pm_aload_n (pc := 88) d_Mo_work_88 rfl) ?_
            refine px (fun _ => pm_iconst (v := 3) (pc := 89) d_Mo_work_89 rfl) ?_
            obtain ⟨⟨o7, h7⟩, ⟨e7, H7, F7⟩, en7⟩ := m_trouble3 (l := l) (G := G) (fi := fi) (T := msF (msW T (mV T) F v) (i * 4 + j) (g_En S n i j)) hl H_2 iv.le
            dsimp only at e7 H7 F7
            subst e7
            refine px (fun _ => k_Mo_work_90 (kc1 := 0) (ks1 := 0) (kc := 0) (ks := 0) (av := [.int (3)]) (st := []) H_2.1 (en7) rfl rfl (Nat.le_of_ble_eq_true rfl)) ?_
            have big : g_big (g_En S n i j) := by first | exact Or.inl (by assumption) | exact Or.inr (by assumption)
            have t9 : nI (mA T 1 (gN S n 2)) = 0 := by assumption
            rw [u1] at t9
            have t0 : gT S (gN S n 2) 0 = 0 := (nI_eq (a := gT S (gN S n 2) 0) (b := 0) (by omega) (by omega)).mp t9
            have tv : m_tv S n = 3 := by unfold m_tv; exact if_neg (fun q => hI.pick hr hn ath q hi hj ok ⟨t0, big⟩)
            have H9 : mH (m_tb (msW T (mV T) (va_up F (i * 4 + j) (g_En S n i j)) v) 3) h7 := H7
            rw [m_tb_W, ← tv] at H9
            have hv9 : ¬ g_bd S n i j ∧ (if v = 0 then m_tv S n else v) = v ∨ g_bd S n i j ∧ (if v = 0 then m_tv S n else v) = if v = 0 then m_tv S n else v := Or.inr ⟨Or.inr ⟨t0, big⟩, rfl⟩
            refine px (fun _ => pm_iinc (x := nI j) (v := nI (j + 1)) (lv' := [(4, .int (nI (j + 1))), (5, .double (g_En S n i j)), (3, .int (nI i)), (0, .ref (95)), (1, .int (nI n)), (2, .int (nI (gN S n 2)))]) (pc := 93) d_Mo_work_93 rfl (nI_1 _) (by decide) rfl) ?_
            refine px (fun _ => pm_goto (tgt := 27) (pc := 96) d_Mo_work_96 (by decide)) ?_
            refine pxd [0, 2, 3, 4, 5] rfl ?_
            exact ih (j + 1) (va_up F (i * 4 + j) (g_En S n i j)) (if v = 0 then m_tv S n else v) _ H9 (R.tr ((FE).tr (((mFr.set _ _ (by omega))).tr (F7)))) (iv.step (by omega) hi hj (fun _ => rfl) hv9) (by omega)
    · rw [m_tb_W] at HE
      refine px (fun _ => k_Mo_work_43 (kc1 := 0) (ks1 := 0) (kc := 0) (ks := 0) (av := [.int (nI n), .int (nI i), .int (nI j)]) (st := []) H.1 (enE) rfl rfl (Nat.le_of_ble_eq_true rfl)) ?_
      refine px (fun _ => pm_dstore (lv' := [(5, .double (FP.dconst0)), (4, .int (nI j)), (3, .int (nI i)), (0, .ref (95)), (1, .int (nI n)), (2, .int (nI (gN S n 2)))]) (pc := 46) d_Mo_work_46 (by decide) rfl) ?_
      refine px (fun _ => pm_aload_n (pc := 48) d_Mo_work_48 rfl) ?_
      refine px (fun _ => pm_getf fl_Mo_50 (pc := 49) d_Mo_work_49 HE.1 rfl) ?_
      refine px (fun _ => pm_iload_n (pc := 52) d_Mo_work_52 rfl) ?_
      refine px (fun _ => pm_iconst (v := 4) (pc := 53) d_Mo_work_53 rfl) ?_
      refine px (fun _ => pm_imulN (a := i) (b := 4) (pc := 54) d_Mo_work_54) ?_
      refine px (fun _ => pm_iload (pc := 55) d_Mo_work_55 rfl) ?_
      refine px (fun _ => pm_iaddN (a := (i * 4)) (b := j) (pc := 57) d_Mo_work_57) ?_
      refine px (fun _ => pm_dload (pc := 58) d_Mo_work_58 rfl) ?_
      refine px (fun _ => pm_dast (j := i * 4 + j) (pc := 60) d_Mo_work_60 HE.2.2.2.2.2.2.2.2.2.2.2.2.2.2 (rfl) (by omega) (by decide)) ?_
      have H_8 : mH (msF (msW T (mV T) F (if v = 0 then m_tv S n else v)) (i * 4 + j) FP.dconst0) (hE.set (109) (pm_Dd 16 (va_up (mF (msW T (mV T) F (if v = 0 then m_tv S n else v))) (i * 4 + j) (FP.dconst0)))) := HE.F (j := i * 4 + j) (v := FP.dconst0)
      refine px (fun _ => pm_aload_n (pc := 61) d_Mo_work_61 rfl) ?_
      refine px (fun _ => pm_getf fl_Mo_13 (pc := 62) d_Mo_work_62 H_8.1 rfl) ?_
      refine px (fun _ => pm_iload_n (pc := 65) d_Mo_work_65 rfl) ?_
      refine px (fun _ => pm_iald (j := gN S n 2) (pc := 66) d_Mo_work_66 H_8.2.2.1 (rfl) (b3) (by decide)) ?_
      refine pxn (fun _ => pm_if_ne (pc := 67) (tgt := 93) d_Mo_work_67 (by decide)) (fun c_9 => ?_) (fun c_9 => ?_)
      · have hv9 : ¬ g_bd S n i j ∧ (if v = 0 then m_tv S n else v) = v ∨ g_bd S n i j ∧ (if v = 0 then m_tv S n else v) = if v = 0 then m_tv S n else v := Or.inr ⟨Or.inl nok, rfl⟩
        refine px (fun _ => pm_iinc (x := nI j) (v := nI (j + 1)) (lv' := [(4, .int (nI (j + 1))), (5, .double (FP.dconst0)), (3, .int (nI i)), (0, .ref (95)), (1, .int (nI n)), (2, .int (nI (gN S n 2)))]) (pc := 93) d_Mo_work_93 rfl (nI_1 _) (by decide) rfl) ?_
        refine px (fun _ => pm_goto (tgt := 27) (pc := 96) d_Mo_work_96 (by decide)) ?_
        refine pxd [0, 2, 3, 4, 5] rfl ?_
        exact ih (j + 1) (va_up F (i * 4 + j) FP.dconst0) (if v = 0 then m_tv S n else v) _ H_8 (R.tr ((FE).tr ((mFr.set _ _ (by omega))))) (iv.step (by omega) hi hj (fun q => absurd q nok) hv9) (by omega)
      · refine px (fun _ => pm_dload (pc := 70) d_Mo_work_70 rfl) ?_
        refine px (fun _ => pm_ldc2d (pc := 72) d_Mo_work_72 tw_802) ?_
        refine px (fun _ => pm_dcmp (pc := 75) d_Mo_work_75) ?_
        refine pxb (fun _ => pm_if_gt (pc := 76) (tgt := 88) d_Mo_work_76 (by decide)) (fun c_10 => absurd c_10 (by decide +kernel)) (fun c_10 => ?_)
        refine px (fun _ => pm_dload (pc := 79) d_Mo_work_79 rfl) ?_
        refine px (fun _ => pm_ldc2d (pc := 81) d_Mo_work_81 tw_803) ?_
        refine px (fun _ => pm_dcmp (pc := 84) d_Mo_work_84) ?_
        refine pxb (fun _ => pm_if_ge (pc := 85) (tgt := 93) d_Mo_work_85 (by decide)) (fun c_11 => ?_) (fun c_11 => absurd (by decide +kernel) c_11)
        have hv9 : ¬ g_bd S n i j ∧ (if v = 0 then m_tv S n else v) = v ∨ g_bd S n i j ∧ (if v = 0 then m_tv S n else v) = if v = 0 then m_tv S n else v := Or.inr ⟨Or.inl nok, rfl⟩
        refine px (fun _ => pm_iinc (x := nI j) (v := nI (j + 1)) (lv' := [(4, .int (nI (j + 1))), (5, .double (FP.dconst0)), (3, .int (nI i)), (0, .ref (95)), (1, .int (nI n)), (2, .int (nI (gN S n 2)))]) (pc := 93) d_Mo_work_93 rfl (nI_1 _) (by decide) rfl) ?_
        refine px (fun _ => pm_goto (tgt := 27) (pc := 96) d_Mo_work_96 (by decide)) ?_
        refine pxd [0, 2, 3, 4, 5] rfl ?_
        exact ih (j + 1) (va_up F (i * 4 + j) FP.dconst0) (if v = 0 then m_tv S n else v) _ H_8 (R.tr ((FE).tr ((mFr.set _ _ (by omega))))) (iv.step (by omega) hi hj (fun q => absurd q nok) hv9) (by omega)
set_option maxHeartbeats 1000000 in
set_option maxRecDepth 20000 in
theorem lp_wo {l : Launch} {G : pm_G} {fi : Bool} {h0 : pm_H} {S : gS} {T : mS} {n : Nat} {Post : pm_O × pm_H → Prop} (hl : l.stackTraces = false) (hI : gI S) (hr : gG S 1 = 1) (hn : n < gG S 0) (ath : g_ath S n) (he : mEl S T n) (to : mTb S T (gN S n 2)) (K : ∀ F v h, mH (msW T (mV T) F v) h → mFr h0 h → m_iv S n F v (gT S (gN S n 2) 1) 0 → pm_Px l G fi fi 0 0 M_Mo_work 105 [(0, .ref (95)), (1, .int (nI n)), (2, .int (nI (gN S n 2)))] [] h Post) : ∀ (d i : Nat) (F : Nat → UInt64) (v : Nat) (h : pm_H), mH (msW T (mV T) F v) h → mFr h0 h → m_iv S n F v i 0 → i + d = gT S (gN S n 2) 1 → pm_Px l G fi fi 0 0 M_Mo_work 14 [(3, .int (nI i)), (0, .ref (95)), (1, .int (nI n)), (2, .int (nI (gN S n 2)))] [] h Post := by
  obtain ⟨b1, b2, b3, b4, b5, b6, b7⟩ := hI.arr hn
  obtain ⟨u1, u2, u3⟩ := id to
  have bo := hI.1.2.2.2.2.1 _ b3
  intro d
  induction d with
  | zero =>
    intro i F v h H R iv hd
    obtain rfl : i = gT S (gN S n 2) 1 := by omega
    refine px (fun _ => pm_iload_n (pc := 14) d_Mo_work_14 rfl) ?_
    refine px (fun _ => pm_aload_n (pc := 15) d_Mo_work_15 rfl) ?_
    refine px (fun _ => pm_getf fl_Mo_16 (pc := 16) d_Mo_work_16 H.1 rfl) ?_
    refine px (fun _ => pm_iload_n (pc := 19) d_Mo_work_19 rfl) ?_
    refine px (fun _ => pm_iald (j := gN S n 2) (pc := 20) d_Mo_work_20 H.2.2.2.1 (rfl) (b3) (by decide)) ?_
    refine pxb (fun _ => pm_icmp_ge (pc := 21) (tgt := 105) d_Mo_work_21 (by decide)) (fun c_1 => ?_) (fun c_1 => absurd ((nI_leI (a := mA T 2 (gN S n 2)) (b := gT S (gN S n 2) 1) (by omega) (by omega)).mpr (by omega)) c_1)
    refine pxd [1, 2, 3] rfl ?_
    exact K F v h H R iv
  | succ d ih =>
    intro i F v h H R iv hd
    refine px (fun _ => pm_iload_n (pc := 14) d_Mo_work_14 rfl) ?_
    refine px (fun _ => pm_aload_n (pc := 15) d_Mo_work_15 rfl) ?_
    refine px (fun _ => pm_getf fl_Mo_16 (pc := 16) d_Mo_work_16 H.1 rfl) ?_
    refine px (fun _ => pm_iload_n (pc := 19) d_Mo_work_19 rfl) ?_
    refine px (fun _ => pm_iald (j := gN S n 2) (pc := 20) d_Mo_work_20 H.2.2.2.1 (rfl) (b3) (by decide)) ?_
    refine pxb (fun _ => pm_icmp_ge (pc := 21) (tgt := 105) d_Mo_work_21 (by decide)) (fun c_1 => absurd c_1 (fun q => absurd ((nI_leI (a := mA T 2 (gN S n 2)) (b := i) (by omega) (by omega)).mp q) (by omega))) (fun c_1 => ?_)
    refine px (fun _ => pm_iconst (v := 0) (pc := 24) d_Mo_work_24 rfl) ?_
    refine px (fun _ => pm_istore (lv' := [(4, .int (0)), (3, .int (nI i)), (0, .ref (95)), (1, .int (nI n)), (2, .int (nI (gN S n 2)))]) (pc := 25) d_Mo_work_25 (by decide) rfl) ?_
    refine pxd [0, 1, 2, 3, 4] rfl ?_
    exact lp_wi hl hI hr hn ath he to (by omega) (fun F1 v1 h1 H1 R1 iv1 => ih (i + 1) F1 v1 h1 H1 R1 iv1 (by omega)) (gT S (gN S n 2) 2) 0 F v h H R iv (by omega)
set_option maxHeartbeats 1000000 in
set_option maxRecDepth 20000 in
theorem lp_cp {l : Launch} {G : pm_G} {fi : Bool} {h0 : pm_H} {S : gS} {T : mS} {n : Nat} {F : Nat → UInt64} (hl : l.stackTraces = false) (b3 : gN S n 2 < 20) : ∀ (d k : Nat) (h : pm_H), mH (msW T (m_cp T (gN S n 2) F k) F 0) h → mFr h0 h → k + d = 16 → pm_Px l G fi fi 0 0 M_Mo_work 107 [(3, .int (nI k)), (0, .ref (95)), (1, .int (nI n)), (2, .int (nI (gN S n 2)))] [] h (fun r => r.1 = .inl (some (.int 0)) ∧ mH (msW T (m_cp T (gN S n 2) F 16) F 0) r.2 ∧ mFr h0 r.2) := by
  intro d
  induction d with
  | zero =>
    intro k h H R hd
    obtain rfl : k = 16 := by omega
    refine px (fun _ => pm_iload_n (pc := 107) d_Mo_work_107 rfl) ?_
    refine px (fun _ => pm_bipush (v := 16) (pc := 108) d_Mo_work_108 rfl) ?_
    refine pxb (fun _ => pm_icmp_ge (pc := 110) (tgt := 143) d_Mo_work_110 (by decide)) (fun c_1 => ?_) (fun c_1 => absurd ((nI_leI (a := 16) (b := 16) (by omega) (by omega)).mpr (by omega)) c_1)
    refine px (fun _ => pm_aload_n (pc := 143) d_Mo_work_143 rfl) ?_
    refine px (fun _ => pm_getf fl_Mo_108 (pc := 144) d_Mo_work_144 H.1 rfl) ?_
    exact pxr (pm_iret (pc := 147) d_Mo_work_147 rfl rfl) ⟨rfl, H, R⟩
  | succ d ih =>
    intro k h H R hd
    refine px (fun _ => pm_iload_n (pc := 107) d_Mo_work_107 rfl) ?_
    refine px (fun _ => pm_bipush (v := 16) (pc := 108) d_Mo_work_108 rfl) ?_
    refine pxb (fun _ => pm_icmp_ge (pc := 110) (tgt := 143) d_Mo_work_110 (by decide)) (fun c_1 => absurd c_1 (fun q => absurd ((nI_leI (a := 16) (b := k) (by omega) (by omega)).mp q) (by omega))) (fun c_1 => ?_)
    refine px (fun _ => pm_aload_n (pc := 113) d_Mo_work_113 rfl) ?_
    refine px (fun _ => pm_getf fl_Mo_108 (pc := 114) d_Mo_work_114 H.1 rfl) ?_
    refine pxn (fun _ => pm_if_ne (pc := 117) (tgt := 143) d_Mo_work_117 (by decide)) (fun c_2 => absurd (rfl) c_2) (fun c_2 => ?_)
    refine px (fun _ => pm_aload_n (pc := 120) d_Mo_work_120 rfl) ?_
    refine px (fun _ => pm_getf fl_Mo_25 (pc := 121) d_Mo_work_121 H.1 rfl) ?_
    refine px (fun _ => pm_iload_n (pc := 124) d_Mo_work_124 rfl) ?_
    refine px (fun _ => pm_bipush (v := 16) (pc := 125) d_Mo_work_125 rfl) ?_
    refine px (fun _ => pm_imulN (a := (gN S n 2)) (b := 16) (pc := 127) d_Mo_work_127) ?_
    refine px (fun _ => pm_iload_n (pc := 128) d_Mo_work_128 rfl) ?_
    refine px (fun _ => pm_iaddN (a := ((gN S n 2) * 16)) (b := k) (pc := 129) d_Mo_work_129) ?_
    refine px (fun _ => pm_aload_n (pc := 130) d_Mo_work_130 rfl) ?_
    refine px (fun _ => pm_getf fl_Mo_50 (pc := 131) d_Mo_work_131 H.1 rfl) ?_
    refine px (fun _ => pm_iload_n (pc := 134) d_Mo_work_134 rfl) ?_
    refine px (fun _ => pm_dald (j := k) (pc := 135) d_Mo_work_135 H.2.2.2.2.2.2.2.2.2.2.2.2.2.2 (rfl) ((by omega)) (by decide)) ?_
    refine px (fun _ => pm_dast (j := gN S n 2 * 16 + k) (pc := 136) d_Mo_work_136 H.2.2.2.2.2.2.1 (rfl) (by omega) (by decide)) ?_
    have H_3 : mH (msV (msW T (m_cp T (gN S n 2) F k) F 0) (gN S n 2 * 16 + k) ((mF (msW T (m_cp T (gN S n 2) F k) F 0)) (k))) (h.set (101) (pm_Dd 320 (va_up (mV (msW T (m_cp T (gN S n 2) F k) F 0)) (gN S n 2 * 16 + k) ((mF (msW T (m_cp T (gN S n 2) F k) F 0)) (k))))) := H.V (j := gN S n 2 * 16 + k) (v := (mF (msW T (m_cp T (gN S n 2) F k) F 0)) (k))
    refine px (fun _ => pm_iinc (x := nI k) (v := nI (k + 1)) (lv' := [(3, .int (nI (k + 1))), (0, .ref (95)), (1, .int (nI n)), (2, .int (nI (gN S n 2)))]) (pc := 137) d_Mo_work_137 rfl (nI_1 _) (by decide) rfl) ?_
    refine px (fun _ => pm_goto (tgt := 107) (pc := 140) d_Mo_work_140 (by decide)) ?_
    refine pxd [0, 1, 2, 3] rfl ?_
    have H9 : mH (msW T (va_up (m_cp T (gN S n 2) F k) (gN S n 2 * 16 + k) (F k)) F 0) (h.set (101) (pm_Dd 320 (va_up (mV (msW T (m_cp T (gN S n 2) F k) F 0)) (gN S n 2 * 16 + k) ((mF (msW T (m_cp T (gN S n 2) F k) F 0)) (k))))) := H_3
    rw [m_cp_s] at H9
    exact pxm (ih (k + 1) _ H9 (R.tr ((mFr.set _ _ (by omega)))) (by omega)) (fun r q => q)
set_option maxHeartbeats 1000000 in
set_option maxRecDepth 20000 in
theorem m_work {l : Launch} {G : pm_G} {fi : Bool} {h : pm_H} {S : gS} {T : mS} {n : Nat} (hl : l.stackTraces = false) (hI : gI S) (hr : gG S 1 = 1) (hn : n < gG S 0) (ath : g_ath S n) (he : mEl S T n) (to : mTb S T (gN S n 2)) (H : mH T h) : pm_Cn l G fi fi 0 0 M_Mo_work [.ref 95, .int (nI n)] h (m_PW S T n h) := by
  refine pm_Cn.of hl (by decide) (Nat.le_of_ble_eq_true rfl) ?_
  obtain ⟨b1, b2, b3, b4, b5, b6, b7⟩ := hI.arr hn
  obtain ⟨u1, u2, u3⟩ := id to
  have bo := hI.1.2.2.2.2.1 _ b3
  have d2 := he.1.2.1
  refine px (fun _ => pm_aload_n (pc := 0) d_Mo_work_0 rfl) ?_
  refine px (fun _ => pm_getf fl_Mo_32 (pc := 1) d_Mo_work_1 H.1 rfl) ?_
  refine px (fun _ => pm_iload_n (pc := 4) d_Mo_work_4 rfl) ?_
  refine px (fun _ => pm_iald (j := n) (pc := 5) d_Mo_work_5 H.2.2.2.2.2.2.2.2.1 (rfl) (b1) (by decide)) ?_
  rw [d2]
  refine px (fun _ => pm_istore_n (lv' := [(2, .int (nI (gN S n 2))), (0, .ref (95)), (1, .int (nI n))]) (pc := 6) d_Mo_work_6 (by decide) rfl) ?_
  refine px (fun _ => pm_aload_n (pc := 7) d_Mo_work_7 rfl) ?_
  refine px (fun _ => pm_iconst (v := 0) (pc := 8) d_Mo_work_8 rfl) ?_
  refine px (fun _ => pm_putfC (c' := pm_Ob 4 [.ref (96), .ref (97), .ref (98), .ref (99), .ref (100), .ref (101), .ref (102), .ref (103), .ref (104), .ref (105), .ref (106), .ref (107), .ref (108), .ref (109), .int (nI (mG T 0)), .int (nI (mG T 1)), .int (nI (mG T 2)), .int (nI (mG T 3)), .int (0), .int (nI (mG T 5)), .int (nI (mG T 6))]) fp_Mo_108 (pc := 9) d_Mo_work_9 H.1 (Nat.le_of_ble_eq_true rfl) rfl rfl rfl) ?_
  have H_1 : mH (msG T 4 0) (h.set (95) (pm_Ob 4 [.ref (96), .ref (97), .ref (98), .ref (99), .ref (100), .ref (101), .ref (102), .ref (103), .ref (104), .ref (105), .ref (106), .ref (107), .ref (108), .ref (109), .int (nI (mG T 0)), .int (nI (mG T 1)), .int (nI (mG T 2)), .int (nI (mG T 3)), .int (0), .int (nI (mG T 5)), .int (nI (mG T 6))])) := H.G4 (v := 0)
  refine px (fun _ => pm_iconst (v := 0) (pc := 12) d_Mo_work_12 rfl) ?_
  refine px (fun _ => pm_istore_n (lv' := [(3, .int (0)), (2, .int (nI (gN S n 2))), (0, .ref (95)), (1, .int (nI n))]) (pc := 13) d_Mo_work_13 (by decide) rfl) ?_
  have H1 : mH (msW T (mV T) (mF T) 0) (h.set (95) (pm_Ob 4 [.ref (96), .ref (97), .ref (98), .ref (99), .ref (100), .ref (101), .ref (102), .ref (103), .ref (104), .ref (105), .ref (106), .ref (107), .ref (108), .ref (109), .int (nI (mG T 0)), .int (nI (mG T 1)), .int (nI (mG T 2)), .int (nI (mG T 3)), .int (0), .int (nI (mG T 5)), .int (nI (mG T 6))])) := H_1
  refine pxd [0, 2, 3, 1] rfl ?_
  refine lp_wo hl hI hr hn ath he to (h0 := h) ?_ (gT S (gN S n 2) 1) 0 (mF T) 0 _ H1 ((mFr.set _ _ (by omega))) m_iv.z (by omega)
  intro F v h2 H2 R2 iv
  obtain ⟨e, ge, ev, ef⟩ := iv.end hI hr hn ath
  have v4 := iv.le
  by_cases v0 : v = 0
  · subst v0
    obtain rfl := m_er0 ev.symm
    refine px (fun _ => pm_iconst (v := 0) (pc := 105) d_Mo_work_105 rfl) ?_
    refine px (fun _ => pm_istore_n (lv' := [(3, .int (0)), (0, .ref (95)), (1, .int (nI n)), (2, .int (nI (gN S n 2)))]) (pc := 106) d_Mo_work_106 (by decide) rfl) ?_
    refine pxd [0, 1, 2, 3] rfl ?_
    refine pxm (lp_cp (h0 := h) (F := F) hl b3 16 0 h2 (by rw [m_cp_0]; exact H2) R2 (by omega)) (fun r q => ?_)
    refine ⟨0, m_cp T (gN S n 2) F 16, F, q.1, q.2.1, q.2.2, ge, fun k9 hk9 => ?_, fun _ x y hx hy => ?_⟩
    · unfold m_cp; rw [if_neg hk9]
    · unfold m_cp; rw [if_pos (by omega), show gN S n 2 * 16 + x * 4 + y - gN S n 2 * 16 = x * 4 + y by omega]; exact ef rfl x y hx hy
  · skip
    refine px (fun _ => pm_iconst (v := 0) (pc := 105) d_Mo_work_105 rfl) ?_
    refine px (fun _ => pm_istore_n (lv' := [(3, .int (0)), (0, .ref (95)), (1, .int (nI n)), (2, .int (nI (gN S n 2)))]) (pc := 106) d_Mo_work_106 (by decide) rfl) ?_
    refine px (fun _ => pm_iload_n (pc := 107) d_Mo_work_107 rfl) ?_
    refine px (fun _ => pm_bipush (v := 16) (pc := 108) d_Mo_work_108 rfl) ?_
    refine pxb (fun _ => pm_icmp_ge (pc := 110) (tgt := 143) d_Mo_work_110 (by decide)) (fun c_2 => absurd c_2 (by decide)) (fun c_2 => ?_)
    refine px (fun _ => pm_aload_n (pc := 113) d_Mo_work_113 rfl) ?_
    refine px (fun _ => pm_getf fl_Mo_108 (pc := 114) d_Mo_work_114 H2.1 rfl) ?_
    refine pxn (fun _ => pm_if_ne (pc := 117) (tgt := 143) d_Mo_work_117 (by decide)) (fun c_3 => ?_) (fun c_3 => absurd c_3 (show ¬ nI v = 0 from nI_ne0 (by omega) (by omega)))
    refine px (fun _ => pm_aload_n (pc := 143) d_Mo_work_143 rfl) ?_
    refine px (fun _ => pm_getf fl_Mo_108 (pc := 144) d_Mo_work_144 H2.1 rfl) ?_
    exact pxr (pm_iret (pc := 147) d_Mo_work_147 rfl rfl) ⟨e, mV T, F, by rw [← ev]; rfl, by rw [← ev]; exact H2, R2, ge, fun _ _ => rfl, fun q => absurd (ev.trans (by rw [q]; rfl)) v0⟩
