/-! ===== the model: prepare ===== -/
theorem mqO.P {S : gS} {T T1 : mS} (h : mqO (msG T 5 0) T1) (v : Nat) : mqP S T (msG T1 5 v) := by
  obtain ⟨h1, h2, h3, h4, h5⟩ := h
  refine ⟨fun k k4 k5 => ?_, fun a b ha _ => h2 a b ha, h3, h4⟩
  show va_up (mG T1) 5 v k = mG T k
  simp only [va_up]
  rw [if_neg k5, h1]
  show va_up (mG T) 5 0 k = mG T k
  simp only [va_up]
  rw [if_neg k5]
theorem mqP.G5 {S : gS} {T T1 : mS} (h : mqP S T T1) (v : Nat) : mqP S T (msG T1 5 v) := by
  refine ⟨fun k k4 k5 => ?_, h.2.1, h.2.2.1, h.2.2.2⟩
  show va_up (mG T1) 5 v k = mG T k
  simp only [va_up]
  rw [if_neg k5]
  exact h.1 k k4 k5
abbrev m_PT (S : gS) (T : mS) (h : pm_H) (v : Nat) : pm_O × pm_H → Prop := fun r => r.1 = .inl (some (.int 0)) ∧ ∃ T', mH T' r.2 ∧ mFr h r.2 ∧ mG T' 5 = v ∧ mqP S T T'
set_option maxHeartbeats 1000000 in
set_option maxRecDepth 20000 in
theorem m_prep_r {l : Launch} {G : pm_G} {fi : Bool} {h : pm_H} {T : mS}  (hl : l.stackTraces = false) (H : mH T h) (hr : mG T 6 = 1) : pm_Cn l G fi fi 0 0 M_Mo_prepare [.ref (95)] h (m_P (some (.int (nI (mG T 1)))) (msG T 5 0) h) := by
  refine pm_Cn.of hl (by decide) (Nat.le_of_ble_eq_true rfl) ?_
  refine px (fun _ => pm_aload_n (pc := 0) d_Mo_prepare_0 rfl) ?_
  refine px (fun _ => pm_iconst (v := 0) (pc := 1) d_Mo_prepare_1 rfl) ?_
  refine px (fun _ => pm_putfC (c' := pm_Ob 4 [.ref (96), .ref (97), .ref (98), .ref (99), .ref (100), .ref (101), .ref (102), .ref (103), .ref (104), .ref (105), .ref (106), .ref (107), .ref (108), .ref (109), .int (nI (mG T 0)), .int (nI (mG T 1)), .int (nI (mG T 2)), .int (nI (mG T 3)), .int (nI (mG T 4)), .int (0), .int (nI (mG T 6))]) fp_Mo_57 (pc := 2) d_Mo_prepare_2 H.1 (Nat.le_of_ble_eq_true rfl) rfl rfl rfl) ?_
  have H_1 : mH (msG T 5 0) (h.set (95) (pm_Ob 4 [.ref (96), .ref (97), .ref (98), .ref (99), .ref (100), .ref (101), .ref (102), .ref (103), .ref (104), .ref (105), .ref (106), .ref (107), .ref (108), .ref (109), .int (nI (mG T 0)), .int (nI (mG T 1)), .int (nI (mG T 2)), .int (nI (mG T 3)), .int (nI (mG T 4)), .int (0), .int (nI (mG T 6))])) := H.G5 (v := 0)
  refine px (fun _ => pm_aload_n (pc := 5) d_Mo_prepare_5 rfl) ?_
  refine px (fun _ => pm_getf fl_Mo_53 (pc := 6) d_Mo_prepare_6 H_1.1 rfl) ?_
  refine pxb (fun _ => pm_if_eq (pc := 9) (tgt := 17) d_Mo_prepare_9 (by decide)) (fun c_2 => absurd c_2 (fun q => absurd (show nI (mG T 6) = 0 from q) (by rw [hr]; decide))) (fun c_2 => ?_)
  refine px (fun _ => pm_aload_n (pc := 12) d_Mo_prepare_12 rfl) ?_
  refine px (fun _ => pm_getf fl_Mo_61 (pc := 13) d_Mo_prepare_13 H_1.1 rfl) ?_
  exact pxr (pm_iret (pc := 16) d_Mo_prepare_16 rfl rfl) ⟨rfl, H_1, (mFr.set _ _ (by omega))⟩
set_option maxHeartbeats 1000000 in
set_option maxRecDepth 20000 in
theorem m_prep_o {l : Launch} {G : pm_G} {fi : Bool} {h : pm_H} {S : gS} {T : mS} (hl : l.stackTraces = false) (H : mH T h) (hW : gW S) (hV : gV S) (hU : gU S) (hJ : gJ S) (hR : gR0 S T) (hr : mG T 6 = 0) (eo : ¬ (g_o1 S).1 = true) : pm_Cn l G fi fi 0 0 M_Mo_prepare [.ref 95] h (m_PT S T h 1) := by
  refine pm_Cn.of hl (by decide) (Nat.le_of_ble_eq_true rfl) ?_
  refine px (fun _ => pm_aload_n (pc := 0) d_Mo_prepare_0 rfl) ?_
  refine px (fun _ => pm_iconst (v := 0) (pc := 1) d_Mo_prepare_1 rfl) ?_
  refine px (fun _ => pm_putfC (c' := pm_Ob 4 [.ref (96), .ref (97), .ref (98), .ref (99), .ref (100), .ref (101), .ref (102), .ref (103), .ref (104), .ref (105), .ref (106), .ref (107), .ref (108), .ref (109), .int (nI (mG T 0)), .int (nI (mG T 1)), .int (nI (mG T 2)), .int (nI (mG T 3)), .int (nI (mG T 4)), .int (0), .int (nI (mG T 6))]) fp_Mo_57 (pc := 2) d_Mo_prepare_2 H.1 (Nat.le_of_ble_eq_true rfl) rfl rfl rfl) ?_
  have H_1 : mH (msG T 5 0) (h.set (95) (pm_Ob 4 [.ref (96), .ref (97), .ref (98), .ref (99), .ref (100), .ref (101), .ref (102), .ref (103), .ref (104), .ref (105), .ref (106), .ref (107), .ref (108), .ref (109), .int (nI (mG T 0)), .int (nI (mG T 1)), .int (nI (mG T 2)), .int (nI (mG T 3)), .int (nI (mG T 4)), .int (0), .int (nI (mG T 6))])) := H.G5 (v := 0)
  refine px (fun _ => pm_aload_n (pc := 5) d_Mo_prepare_5 rfl) ?_
  refine px (fun _ => pm_getf fl_Mo_53 (pc := 6) d_Mo_prepare_6 H_1.1 rfl) ?_
  refine pxb (fun _ => pm_if_eq (pc := 9) (tgt := 17) d_Mo_prepare_9 (by decide)) (fun c_2 => ?_) (fun c_2 => absurd (show nI (mG T 6) = 0 by rw [hr]; rfl) c_2)
  refine px (fun _ => pm_aload_n (pc := 17) d_Mo_prepare_17 rfl) ?_
  refine px (fun _ => pm_aload_n (pc := 18) d_Mo_prepare_18 rfl) ?_
  obtain ⟨⟨o9, h9⟩, ⟨T9, e9, H9, F9, q9, z9⟩, en9⟩ := m_ordered (l := l) (G := G) (fi := fi) (S := S) (T := msG T 5 0) hl H_1 hW hV hU hJ hR
  dsimp only at e9 H9 F9
  rw [if_neg eo] at e9
  subst e9
  refine px (fun _ => k_Mo_prepare_19 (kc1 := 0) (ks1 := 0) (kc := 0) (ks := 0) (av := []) (st := [.ref (95)]) H_1.1 (en9) rfl rfl (Nat.le_of_ble_eq_true rfl)) ?_
  refine pxb (fun _ => pm_if_eq (pc := 22) (tgt := 29) d_Mo_prepare_22 (by decide)) (fun c_3 => ?_) (fun c_3 => absurd (by decide) c_3)
  refine px (fun _ => pm_iconst (v := 1) (pc := 29) d_Mo_prepare_29 rfl) ?_
  refine px (fun _ => pm_putfC (c' := pm_Ob 4 [.ref (96), .ref (97), .ref (98), .ref (99), .ref (100), .ref (101), .ref (102), .ref (103), .ref (104), .ref (105), .ref (106), .ref (107), .ref (108), .ref (109), .int (nI (mG T9 0)), .int (nI (mG T9 1)), .int (nI (mG T9 2)), .int (nI (mG T9 3)), .int (nI (mG T9 4)), .int (1), .int (nI (mG T9 6))]) fp_Mo_57 (pc := 30) d_Mo_prepare_30 H9.1 (Nat.le_of_ble_eq_true rfl) rfl rfl rfl) ?_
  have H_4 : mH (msG T9 5 1) (h9.set (95) (pm_Ob 4 [.ref (96), .ref (97), .ref (98), .ref (99), .ref (100), .ref (101), .ref (102), .ref (103), .ref (104), .ref (105), .ref (106), .ref (107), .ref (108), .ref (109), .int (nI (mG T9 0)), .int (nI (mG T9 1)), .int (nI (mG T9 2)), .int (nI (mG T9 3)), .int (nI (mG T9 4)), .int (1), .int (nI (mG T9 6))])) := H9.G5 (v := 1)
  refine px (fun _ => pm_iconst (v := 0) (pc := 33) d_Mo_prepare_33 rfl) ?_
  refine px (fun _ => pm_istore_n (lv' := [(1, .int (0)), (0, .ref (95))]) (pc := 34) d_Mo_prepare_34 (by decide) rfl) ?_
  refine px (fun _ => pm_iload_n (pc := 35) d_Mo_prepare_35 rfl) ?_
  refine px (fun _ => pm_aload_n (pc := 36) d_Mo_prepare_36 rfl) ?_
  refine px (fun _ => pm_getf fl_Mo_82 (pc := 37) d_Mo_prepare_37 H_4.1 rfl) ?_
  refine pxb (fun _ => pm_icmp_ge (pc := 40) (tgt := 74) d_Mo_prepare_40 (by decide)) (fun c_5 => ?_) (fun c_5 => ?_)
  · refine px (fun _ => pm_aload_n (pc := 74) d_Mo_prepare_74 rfl) ?_
    refine px (fun _ => pm_getf fl_Mo_57 (pc := 75) d_Mo_prepare_75 H_4.1 rfl) ?_
    refine pxb (fun _ => pm_if_eq (pc := 78) (tgt := 83) d_Mo_prepare_78 (by decide)) (fun c_6 => absurd c_6 (fun q => absurd (show nI 1 = 0 from q) (by decide))) (fun c_6 => ?_)
    refine px (fun _ => pm_iconst (v := 0) (pc := 81) d_Mo_prepare_81 rfl) ?_
    exact pxr (pm_iret (pc := 82) d_Mo_prepare_82 rfl rfl) ⟨rfl, _, H_4, ((mFr.set _ _ (by omega))).tr ((F9).tr ((mFr.set _ _ (by omega)))), rfl, q9.P 1⟩
  · refine px (fun _ => pm_aload_n (pc := 43) d_Mo_prepare_43 rfl) ?_
    refine px (fun _ => pm_getf fl_Mo_57 (pc := 44) d_Mo_prepare_44 H_4.1 rfl) ?_
    refine pxn (fun _ => pm_if_ne (pc := 47) (tgt := 74) d_Mo_prepare_47 (by decide)) (fun c_7 => ?_) (fun c_7 => absurd c_7 (fun q => absurd (show nI 1 = 0 from q) (by decide)))
    refine px (fun _ => pm_aload_n (pc := 74) d_Mo_prepare_74 rfl) ?_
    refine px (fun _ => pm_getf fl_Mo_57 (pc := 75) d_Mo_prepare_75 H_4.1 rfl) ?_
    refine pxb (fun _ => pm_if_eq (pc := 78) (tgt := 83) d_Mo_prepare_78 (by decide)) (fun c_8 => absurd c_8 (fun q => absurd (show nI 1 = 0 from q) (by decide))) (fun c_8 => ?_)
    refine px (fun _ => pm_iconst (v := 0) (pc := 81) d_Mo_prepare_81 rfl) ?_
    exact pxr (pm_iret (pc := 82) d_Mo_prepare_82 rfl rfl) ⟨rfl, _, H_4, ((mFr.set _ _ (by omega))).tr ((F9).tr ((mFr.set _ _ (by omega)))), rfl, q9.P 1⟩
set_option maxHeartbeats 1000000 in
set_option maxRecDepth 20000 in
theorem lp_msh {l : Launch} {G : pm_G} {fi : Bool} {Post : pm_O × pm_H → Prop} {h0 : pm_H} {S0 : gS} {T0 : mS} (hl : l.stackTraces = false) : ∀ (d pl : Nat) (S : gS) (T : mS) (h : pm_H), mH T h → mFr h0 h → mqP S0 T0 T → (∃ t, S = gsTT S0 t) → gW S → gV S → gU S → gJ S → gOk S → gSR S T pl → mG T 5 = 0 → pl + d = gG S0 0 → (∀ S2 T2 h2, g_shL d pl S = some S2 → mH T2 h2 → mFr h0 h2 → mqP S0 T0 T2 → gSR S2 T2 (gG S0 0) → mG T2 5 = 0 → pm_Px l G fi fi 0 0 M_Mo_prepare 83 [(0, .ref 95)] [] h2 Post) → (g_shL d pl S = none → ∀ T2 h2, mH T2 h2 → mFr h0 h2 → mqP S0 T0 T2 → mG T2 5 = 2 → Post (.inl (some (.int 0)), h2)) → pm_Px l G fi fi 0 0 M_Mo_prepare 35 [(1, .int (nI pl)), (0, .ref (95))] [] h Post := by
  intro d
  induction d with
  | zero =>
    intro pl S T h H F Q eS hW hV hU hJ hO hS t5 hd Kok Kbad
    have eG : gG S = gG S0 := by obtain ⟨t, rfl⟩ := eS; rfl
    have eN : gN S = gN S0 := by obtain ⟨t, rfl⟩ := eS; rfl
    have e0 := hS.1.1.1
    have b1 := hW.1
    rw [eG] at e0 b1
    obtain rfl : pl = gG S0 0 := by omega
    refine px (fun _ => pm_iload_n (pc := 35) d_Mo_prepare_35 rfl) ?_
    refine px (fun _ => pm_aload_n (pc := 36) d_Mo_prepare_36 rfl) ?_
    refine px (fun _ => pm_getf fl_Mo_82 (pc := 37) d_Mo_prepare_37 H.1 rfl) ?_
    refine pxb (fun _ => pm_icmp_ge (pc := 40) (tgt := 74) d_Mo_prepare_40 (by decide)) (fun c_1 => ?_) (fun c_1 => absurd (by rw [e0]; exact (nI_leI (a := gG S0 0) (b := gG S0 0) (by omega) (by omega)).mpr (by omega)) c_1)
    refine px (fun _ => pm_aload_n (pc := 74) d_Mo_prepare_74 rfl) ?_
    refine px (fun _ => pm_getf fl_Mo_57 (pc := 75) d_Mo_prepare_75 H.1 rfl) ?_
    refine pxb (fun _ => pm_if_eq (pc := 78) (tgt := 83) d_Mo_prepare_78 (by decide)) (fun c_2 => ?_) (fun c_2 => absurd (by rw [t5]; rfl) c_2)
    refine pxd [1] rfl ?_
    exact Kok S T h rfl H F Q hS t5
  | succ d ih =>
    intro pl S T h H F Q eS hW hV hU hJ hO hS t5 hd Kok Kbad
    have eG : gG S = gG S0 := by obtain ⟨t, rfl⟩ := eS; rfl
    have eN : gN S = gN S0 := by obtain ⟨t, rfl⟩ := eS; rfl
    have e0 := hS.1.1.1
    have b1 := hW.1
    rw [eG] at e0 b1
    have hp : pl < gG S 0 := by rw [eG]; omega
    have oo := hS.2.1 pl hp
    have hn := (hO.X hV hJ pl hp).1
    have tbs := fun k hk => hS.args hV hJ hO hp (k := k) hk
    have nd := hS.1.1.2.2.2.2 _ hn
    have stp := fun v => hS.step hJ hO hp v
    have later := hO.X hV hJ pl hp
    have bn := hW.2.2.2.2.2 (gO S pl) (by rw [eG] at hn; omega)
    have e9 : g_shL (d + 1) pl S = match g_fn S (gO S pl) with | none => none | some v => g_shL d (pl + 1) (g_pt S (gN S (gO S pl) 2) (some v)) := rfl
    obtain ⟨n, en⟩ : ∃ n, n = gO S pl := ⟨_, rfl⟩
    rw [← en] at oo hn tbs nd stp bn e9
    rw [e9] at Kok Kbad
    have hm : n < gG S0 0 := by rw [eG] at hn; exact hn
    have mg : ∀ t r c, mqP S0 T0 (m_gv T (gN S n 2) t r c) := fun t r c => Q.tr (by rw [eN]; exact m_gv_mq hm t r c)
    refine px (fun _ => pm_iload_n (pc := 35) d_Mo_prepare_35 rfl) ?_
    refine px (fun _ => pm_aload_n (pc := 36) d_Mo_prepare_36 rfl) ?_
    refine px (fun _ => pm_getf fl_Mo_82 (pc := 37) d_Mo_prepare_37 H.1 rfl) ?_
    refine pxb (fun _ => pm_icmp_ge (pc := 40) (tgt := 74) d_Mo_prepare_40 (by decide)) (fun c_1 => absurd c_1 (by rw [e0]; exact fun q => absurd ((nI_leI (a := gG S0 0) (b := pl) (by omega) (by omega)).mp q) (by omega))) (fun c_1 => ?_)
    refine px (fun _ => pm_aload_n (pc := 43) d_Mo_prepare_43 rfl) ?_
    refine px (fun _ => pm_getf fl_Mo_57 (pc := 44) d_Mo_prepare_44 H.1 rfl) ?_
    refine pxn (fun _ => pm_if_ne (pc := 47) (tgt := 74) d_Mo_prepare_47 (by decide)) (fun c_2 => absurd (by rw [t5]; rfl) c_2) (fun c_2 => ?_)
    refine px (fun _ => pm_aload_n (pc := 50) d_Mo_prepare_50 rfl) ?_
    refine px (fun _ => pm_aload_n (pc := 51) d_Mo_prepare_51 rfl) ?_
    refine px (fun _ => pm_getf fl_Mo_44 (pc := 52) d_Mo_prepare_52 H.1 rfl) ?_
    refine px (fun _ => pm_iload_n (pc := 55) d_Mo_prepare_55 rfl) ?_
    refine px (fun _ => pm_iald (j := pl) (pc := 56) d_Mo_prepare_56 H.2.2.2.2.2.2.2.2.2.2.2.2.1 (rfl) ((by omega)) (by decide)) ?_
    rw [oo]
    obtain ⟨⟨o7, h7⟩, ⟨e7, T7, H7, F7, c7, v7⟩, en7⟩ := m_shape (l := l) (G := G) (fi := fi) hl H hW hV hU hn nd tbs
    dsimp only at e7 H7 F7 c7 v7
    cases hv : g_fn S n with
    | none =>
      rw [hv] at e7 v7 Kok Kbad
      dsimp only at Kok Kbad
      have e8 : o7 = .inl (some (.int 0)) := e7
      subst e8
      have q7 : mqP S0 T0 T7 := by rcases c7 with rfl | ⟨t, r, c, rfl⟩; exact Q; exact mg t r c
      refine px (fun _ => k_Mo_prepare_57 (kc1 := 0) (ks1 := 0) (kc := 0) (ks := 0) (av := [.int (nI n)]) (st := []) H.1 (en7) rfl rfl (Nat.le_of_ble_eq_true rfl)) ?_
      refine pxn (fun _ => pm_if_ne (pc := 60) (tgt := 68) d_Mo_prepare_60 (by decide)) (fun c_3 => absurd (by decide) c_3) (fun c_3 => ?_)
      refine px (fun _ => pm_aload_n (pc := 63) d_Mo_prepare_63 rfl) ?_
      refine px (fun _ => pm_iconst (v := 2) (pc := 64) d_Mo_prepare_64 rfl) ?_
      refine px (fun _ => pm_putfC (c' := pm_Ob 4 [.ref (96), .ref (97), .ref (98), .ref (99), .ref (100), .ref (101), .ref (102), .ref (103), .ref (104), .ref (105), .ref (106), .ref (107), .ref (108), .ref (109), .int (nI (mG T7 0)), .int (nI (mG T7 1)), .int (nI (mG T7 2)), .int (nI (mG T7 3)), .int (nI (mG T7 4)), .int (2), .int (nI (mG T7 6))]) fp_Mo_57 (pc := 65) d_Mo_prepare_65 H7.1 (Nat.le_of_ble_eq_true rfl) rfl rfl rfl) ?_
      have H_4 : mH (msG T7 5 2) (h7.set (95) (pm_Ob 4 [.ref (96), .ref (97), .ref (98), .ref (99), .ref (100), .ref (101), .ref (102), .ref (103), .ref (104), .ref (105), .ref (106), .ref (107), .ref (108), .ref (109), .int (nI (mG T7 0)), .int (nI (mG T7 1)), .int (nI (mG T7 2)), .int (nI (mG T7 3)), .int (nI (mG T7 4)), .int (2), .int (nI (mG T7 6))])) := H7.G5 (v := 2)
      refine px (fun _ => pm_iinc (x := nI pl) (v := nI (pl + 1)) (lv' := [(1, .int (nI (pl + 1))), (0, .ref (95))]) (pc := 68) d_Mo_prepare_68 rfl (nI_1 _) (by decide) rfl) ?_
      refine px (fun _ => pm_goto (tgt := 35) (pc := 71) d_Mo_prepare_71 (by decide)) ?_
      refine px (fun _ => pm_iload_n (pc := 35) d_Mo_prepare_35 rfl) ?_
      refine px (fun _ => pm_aload_n (pc := 36) d_Mo_prepare_36 rfl) ?_
      refine px (fun _ => pm_getf fl_Mo_82 (pc := 37) d_Mo_prepare_37 H_4.1 rfl) ?_
      refine pxb (fun _ => pm_icmp_ge (pc := 40) (tgt := 74) d_Mo_prepare_40 (by decide)) (fun c_5 => ?_) (fun c_5 => ?_)
      · refine px (fun _ => pm_aload_n (pc := 74) d_Mo_prepare_74 rfl) ?_
        refine px (fun _ => pm_getf fl_Mo_57 (pc := 75) d_Mo_prepare_75 H_4.1 rfl) ?_
        refine pxb (fun _ => pm_if_eq (pc := 78) (tgt := 83) d_Mo_prepare_78 (by decide)) (fun c_6 => absurd c_6 (fun q => absurd (show nI 2 = 0 from q) (by decide))) (fun c_6 => ?_)
        refine px (fun _ => pm_iconst (v := 0) (pc := 81) d_Mo_prepare_81 rfl) ?_
        exact pxr (pm_iret (pc := 82) d_Mo_prepare_82 rfl rfl) (Kbad rfl _ _ H_4 (F.tr ((F7).tr ((mFr.set _ _ (by omega))))) (q7.G5 2) rfl)
      · refine px (fun _ => pm_aload_n (pc := 43) d_Mo_prepare_43 rfl) ?_
        refine px (fun _ => pm_getf fl_Mo_57 (pc := 44) d_Mo_prepare_44 H_4.1 rfl) ?_
        refine pxn (fun _ => pm_if_ne (pc := 47) (tgt := 74) d_Mo_prepare_47 (by decide)) (fun c_7 => ?_) (fun c_7 => absurd c_7 (fun q => absurd (show nI 2 = 0 from q) (by decide)))
        refine px (fun _ => pm_aload_n (pc := 74) d_Mo_prepare_74 rfl) ?_
        refine px (fun _ => pm_getf fl_Mo_57 (pc := 75) d_Mo_prepare_75 H_4.1 rfl) ?_
        refine pxb (fun _ => pm_if_eq (pc := 78) (tgt := 83) d_Mo_prepare_78 (by decide)) (fun c_8 => absurd c_8 (fun q => absurd (show nI 2 = 0 from q) (by decide))) (fun c_8 => ?_)
        refine px (fun _ => pm_iconst (v := 0) (pc := 81) d_Mo_prepare_81 rfl) ?_
        exact pxr (pm_iret (pc := 82) d_Mo_prepare_82 rfl rfl) (Kbad rfl _ _ H_4 (F.tr ((F7).tr ((mFr.set _ _ (by omega))))) (q7.G5 2) rfl)
    | some v =>
      rw [hv] at e7 v7 Kok Kbad
      dsimp only at Kok Kbad
      have e8 : o7 = .inl (some (.int 1)) := e7
      subst e8
      obtain rfl := v7 v rfl
      refine px (fun _ => k_Mo_prepare_57 (kc1 := 0) (ks1 := 0) (kc := 0) (ks := 0) (av := [.int (nI n)]) (st := []) H.1 (en7) rfl rfl (Nat.le_of_ble_eq_true rfl)) ?_
      refine pxn (fun _ => pm_if_ne (pc := 60) (tgt := 68) d_Mo_prepare_60 (by decide)) (fun c_9 => ?_) (fun c_9 => absurd c_9 (by decide))
      refine px (fun _ => pm_iinc (x := nI pl) (v := nI (pl + 1)) (lv' := [(1, .int (nI (pl + 1))), (0, .ref (95))]) (pc := 68) d_Mo_prepare_68 rfl (nI_1 _) (by decide) rfl) ?_
      refine px (fun _ => pm_goto (tgt := 35) (pc := 71) d_Mo_prepare_71 (by decide)) ?_
      refine pxd [0, 1] rfl ?_
      have st9 := stp v
      have ok9 : g_ok (some v) := by rw [← hv]; exact g_fx_ok (hW.2.2.2.2.1 _ (hV _ hn 0 (by have z1 := (hU n hn).1; have z2 := g_ar_ok (gN S n 1) (by omega); omega)).2).2.2.1 (by omega)
      obtain ⟨t8, et⟩ := gsTT_pt S (gN S n 2) (some v)
      refine ih (pl + 1) _ _ _ H7 (F.tr (F7)) (mg _ _ _) (by obtain ⟨t, rfl⟩ := eS; exact ⟨t8, et⟩) (hW.pt ok9) (by rw [et]; exact hV) (by rw [et]; exact hU) (by rw [et]; exact hJ) (by rw [et]; exact hO) st9 t5 (by omega) Kok Kbad
set_option maxHeartbeats 1000000 in
set_option maxRecDepth 20000 in
theorem m_prep_s {l : Launch} {G : pm_G} {fi : Bool} {h : pm_H} {S : gS} {T : mS} (hl : l.stackTraces = false) (H : mH T h) (hW : gW S) (hV : gV S) (hU : gU S) (hJ : gJ S) (hR : gR0 S T) (hr : mG T 6 = 0) (eo : (g_o1 S).1 = true) (hO1 : gOk (g_o1 S).2) (hW1 : gW (g_o1 S).2) (hfd : ∀ s, s < 20 → g_fed S s → mTb S T s ∧ mCl S T s) (es : g_shL (gG (g_o1 S).2 0) 0 (g_o1 S).2 = none) : pm_Cn l G fi fi 0 0 M_Mo_prepare [.ref 95] h (m_PT (g_o1 S).2 T h 2) := by
  refine pm_Cn.of hl (by decide) (Nat.le_of_ble_eq_true rfl) ?_
  have q1 : g_eqO S (g_o1 S).2 := (g_eqO.clr S 0 (gG S 0)).tr (g_ordL_eq _ _ _ _)
  have eG1 : gG (g_o1 S).2 = gG S := q1.1
  refine px (fun _ => pm_aload_n (pc := 0) d_Mo_prepare_0 rfl) ?_
  refine px (fun _ => pm_iconst (v := 0) (pc := 1) d_Mo_prepare_1 rfl) ?_
  refine px (fun _ => pm_putfC (c' := pm_Ob 4 [.ref (96), .ref (97), .ref (98), .ref (99), .ref (100), .ref (101), .ref (102), .ref (103), .ref (104), .ref (105), .ref (106), .ref (107), .ref (108), .ref (109), .int (nI (mG T 0)), .int (nI (mG T 1)), .int (nI (mG T 2)), .int (nI (mG T 3)), .int (nI (mG T 4)), .int (0), .int (nI (mG T 6))]) fp_Mo_57 (pc := 2) d_Mo_prepare_2 H.1 (Nat.le_of_ble_eq_true rfl) rfl rfl rfl) ?_
  have H_1 : mH (msG T 5 0) (h.set (95) (pm_Ob 4 [.ref (96), .ref (97), .ref (98), .ref (99), .ref (100), .ref (101), .ref (102), .ref (103), .ref (104), .ref (105), .ref (106), .ref (107), .ref (108), .ref (109), .int (nI (mG T 0)), .int (nI (mG T 1)), .int (nI (mG T 2)), .int (nI (mG T 3)), .int (nI (mG T 4)), .int (0), .int (nI (mG T 6))])) := H.G5 (v := 0)
  refine px (fun _ => pm_aload_n (pc := 5) d_Mo_prepare_5 rfl) ?_
  refine px (fun _ => pm_getf fl_Mo_53 (pc := 6) d_Mo_prepare_6 H_1.1 rfl) ?_
  refine pxb (fun _ => pm_if_eq (pc := 9) (tgt := 17) d_Mo_prepare_9 (by decide)) (fun c_2 => ?_) (fun c_2 => absurd (show nI (mG T 6) = 0 by rw [hr]; rfl) c_2)
  refine px (fun _ => pm_aload_n (pc := 17) d_Mo_prepare_17 rfl) ?_
  refine px (fun _ => pm_aload_n (pc := 18) d_Mo_prepare_18 rfl) ?_
  obtain ⟨⟨o9, h9⟩, ⟨T9, e9, H9, F9, q9, z9⟩, en9⟩ := m_ordered (l := l) (G := G) (fi := fi) (S := S) (T := msG T 5 0) hl H_1 hW hV hU hJ hR
  dsimp only at e9 H9 F9
  rw [if_pos eo] at e9
  subst e9
  refine px (fun _ => k_Mo_prepare_19 (kc1 := 0) (ks1 := 0) (kc := 0) (ks := 0) (av := []) (st := [.ref (95)]) H_1.1 (en9) rfl rfl (Nat.le_of_ble_eq_true rfl)) ?_
  refine pxb (fun _ => pm_if_eq (pc := 22) (tgt := 29) d_Mo_prepare_22 (by decide)) (fun c_3 => absurd c_3 (by decide)) (fun c_3 => ?_)
  refine px (fun _ => pm_iconst (v := 0) (pc := 25) d_Mo_prepare_25 rfl) ?_
  refine px (fun _ => pm_goto (tgt := 30) (pc := 26) d_Mo_prepare_26 (by decide)) ?_
  refine px (fun _ => pm_putfC (c' := pm_Ob 4 [.ref (96), .ref (97), .ref (98), .ref (99), .ref (100), .ref (101), .ref (102), .ref (103), .ref (104), .ref (105), .ref (106), .ref (107), .ref (108), .ref (109), .int (nI (mG T9 0)), .int (nI (mG T9 1)), .int (nI (mG T9 2)), .int (nI (mG T9 3)), .int (nI (mG T9 4)), .int (0), .int (nI (mG T9 6))]) fp_Mo_57 (pc := 30) d_Mo_prepare_30 H9.1 (Nat.le_of_ble_eq_true rfl) rfl rfl rfl) ?_
  have H_4 : mH (msG T9 5 0) (h9.set (95) (pm_Ob 4 [.ref (96), .ref (97), .ref (98), .ref (99), .ref (100), .ref (101), .ref (102), .ref (103), .ref (104), .ref (105), .ref (106), .ref (107), .ref (108), .ref (109), .int (nI (mG T9 0)), .int (nI (mG T9 1)), .int (nI (mG T9 2)), .int (nI (mG T9 3)), .int (nI (mG T9 4)), .int (0), .int (nI (mG T9 6))])) := H9.G5 (v := 0)
  refine px (fun _ => pm_iconst (v := 0) (pc := 33) d_Mo_prepare_33 rfl) ?_
  refine px (fun _ => pm_istore_n (lv' := [(1, .int (0)), (0, .ref (95))]) (pc := 34) d_Mo_prepare_34 (by decide) rfl) ?_
  refine pxd [0, 1] rfl ?_
  have mq9 : mqP (g_o1 S).2 T (msG T9 5 0) := q9.P 0
  have r19 : gR1 (g_o1 S).2 (msG T9 5 0) := ((show gR1 S T from ⟨hR, hfd⟩).eqO q1).mq (q1.J hJ) mq9
  have sr9 : gSR (g_o1 S).2 (msG T9 5 0) 0 := ⟨r19, fun k hk => z9 eo k (by rw [eG1] at hk; exact hk), fun i hi => by omega⟩
  refine lp_msh (h0 := h) (S0 := (g_o1 S).2) (T0 := T) hl (gG (g_o1 S).2 0) 0 (g_o1 S).2 _ _ H_4 (((mFr.set _ _ (by omega))).tr ((F9).tr ((mFr.set _ _ (by omega))))) mq9 ⟨gT (g_o1 S).2, rfl⟩ hW1 (q1.V hV) (q1.U hU) (q1.J hJ) hO1 sr9 rfl (by omega) ?_ ?_
  · intro S2 T2 h2 e2
    rw [es] at e2; cases e2
  · intro _ T2 h2 H2 F2 Q2 t2
    exact ⟨rfl, T2, H2, F2, t2, Q2⟩
set_option maxHeartbeats 1000000 in
set_option maxRecDepth 20000 in
theorem lp_mf {l : Launch} {G : pm_G} {fi : Bool} {Post : pm_O × pm_H → Prop} {h0 : pm_H} {S2 : gS} {nc : Nat} (hl : l.stackTraces = false) (f0 : gFI S2 nc 0 S2) : ∀ (pl : Nat) (S : gS), pl ≤ nc → g_tr S2 pl S → (∀ T x h, mH T h → mFr h0 h → gFR S T x → pm_Px l G fi fi 0 0 M_Mo_prepare 87 [(2, .int (nI pl)), (1, .int x), (0, .ref 95)] [] h Post) → ∀ T x h, mH T h → mFr h0 h → gFR S2 T x → pm_Px l G fi fi 0 0 M_Mo_prepare 87 [(2, .int (nI 0)), (1, .int x), (0, .ref 95)] [] h Post := by
  intro pl
  induction pl with
  | zero =>
    intro S hp tr K
    have e : S = S2 := tr
    subst e
    exact K
  | succ pl ih =>
    intro S3 hp tr K
    obtain ⟨S, tr1, fs⟩ := tr
    have fi1 := f0.of pl S (by omega) tr1
    refine ih S (by omega) tr1 ?_
    intro T x h H F R
    obtain ⟨hI, hn, ho, f4⟩ := fi1.facts (by omega)
    have hg := fi1.2.2.1
    have b1 : gG S 0 ≤ 14 := hI.1.1
    have rr := R.1
    have e0 : mG T 0 = gG S 0 := rr.1.1
    have oo : mA T 11 pl = gO S pl := rr.2.2.2.2.2.1 rfl pl (show pl < gG S 0 by omega)
    have hR0 : gR0 S T := rr.1
    have hV : gV S := hI.2.1
    have hU : gU S := hI.2.2.1
    have hJ : gJ S := hI.2.2.2.1
    have hW : gW S := fi1.2.2.2.2.2.2
    obtain ⟨n, en⟩ : ∃ n, n = gO S pl := ⟨_, rfl⟩
    rw [← en] at oo hn ho f4 fs
    have h14 : n < 14 := by omega
    refine px (fun _ => pm_iload_n (pc := 87) d_Mo_prepare_87 rfl) ?_
    refine px (fun _ => pm_aload_n (pc := 88) d_Mo_prepare_88 rfl) ?_
    refine px (fun _ => pm_getf fl_Mo_82 (pc := 89) d_Mo_prepare_89 H.1 rfl) ?_
    refine pxb (fun _ => pm_icmp_ge (pc := 92) (tgt := 149) d_Mo_prepare_92 (by decide)) (fun c_1 => absurd c_1 (by rw [e0]; exact fun q => absurd ((nI_leI (a := gG S 0) (b := pl) (by omega) (by omega)).mp q) (by omega))) (fun c_1 => ?_)
    refine px (fun _ => pm_aload_n (pc := 95) d_Mo_prepare_95 rfl) ?_
    refine px (fun _ => pm_getf fl_Mo_44 (pc := 96) d_Mo_prepare_96 H.1 rfl) ?_
    refine px (fun _ => pm_iload_n (pc := 99) d_Mo_prepare_99 rfl) ?_
    refine px (fun _ => pm_iald (j := pl) (pc := 100) d_Mo_prepare_100 H.2.2.2.2.2.2.2.2.2.2.2.2.1 (rfl) ((by omega)) (by decide)) ?_
    rw [oo]
    refine px (fun _ => pm_istore_n (lv' := [(3, .int (nI n)), (2, .int (nI pl)), (1, .int (x)), (0, .ref (95))]) (pc := 101) d_Mo_prepare_101 (by decide) rfl) ?_
    refine px (fun _ => pm_aload_n (pc := 102) d_Mo_prepare_102 rfl) ?_
    refine px (fun _ => pm_iload_n (pc := 103) d_Mo_prepare_103 rfl) ?_
    refine px (fun _ => pm_iload_n (pc := 104) d_Mo_prepare_104 rfl) ?_
    refine px (fun _ => pm_iconst (v := 1) (pc := 105) d_Mo_prepare_105 rfl) ?_
    rcases fs with ⟨ha, f, e, he, hf, rfl⟩ | ⟨ha, rfl⟩
    · have ath : g_ath (gRy S) n := g_argC_ath hI hn ha
      obtain ⟨el, to⟩ := gR.el hI rfl rr hn ath
      obtain ⟨⟨o7, h7⟩, ⟨e7, V, W, r7, H7, F7, ge, vo, vi⟩, en7⟩ := m_work (l := l) (G := G) (fi := fi) (S := gRy S) (T := T) hl hI rfl hn ath el to H
      dsimp only at r7 H7 F7
      subst r7
      have ee : e7 = e := g_end_u (S := gRy S) ge he
      subst ee
      have R7 : gFR (gsC S (gN S n 2) f) (msW T V W (m_er e7)) x := R.cell hI hn ho vo
      refine px (fun _ => k_Mo_prepare_106 (kc1 := 0) (ks1 := 0) (kc := 0) (ks := 0) (av := [.int (nI n), .int (x), .int (1)]) (st := []) H.1 ((by have k9 := m_there4 (l := l) (G := G) (fi := fi) hl H hR0 hW hV hU hJ hn R.2.2; rw [if_pos ha] at k9; exact k9)) rfl rfl (Nat.le_of_ble_eq_true rfl)) ?_
      refine pxb (fun _ => pm_if_eq (pc := 109) (tgt := 143) d_Mo_prepare_109 (by decide)) (fun c_2 => absurd c_2 (by decide)) (fun c_2 => ?_)
      refine px (fun _ => pm_aload_n (pc := 112) d_Mo_prepare_112 rfl) ?_
      refine px (fun _ => pm_iload_n (pc := 113) d_Mo_prepare_113 rfl) ?_
      by_cases z7 : e7 = 0
      · subst z7
        have m7 : mCl (gsC S (gN S n 2) f) (msW T V W 0) (gN S n 2) := fun x9 y9 hx9 hy9 => by { rw [gC_s, hf rfl x9 y9 hy9 (Or.inl hx9)]; exact vi rfl x9 y9 hx9 hy9 }
        have I7 := gI_cell hI hn ho f
        have R8 := gFR.mark (S := gsC S (gN S n 2) f) (n := n) I7 R7 hn ho m7
        refine px (fun _ => k_Mo_prepare_114 (kc1 := 0) (ks1 := 0) (kc := 0) (ks := 0) (av := [.int (nI n)]) (st := []) H.1 (en7) rfl rfl (Nat.le_of_ble_eq_true rfl)) ?_
        refine pxn (fun _ => pm_if_ne (pc := 117) (tgt := 143) d_Mo_prepare_117 (by decide)) (fun c_3 => absurd (rfl) c_3) (fun c_3 => ?_)
        refine px (fun _ => pm_aload_n (pc := 120) d_Mo_prepare_120 rfl) ?_
        refine px (fun _ => pm_getf fl_Mo_41 (pc := 121) d_Mo_prepare_121 H7.1 rfl) ?_
        refine px (fun _ => pm_iload_n (pc := 124) d_Mo_prepare_124 rfl) ?_
        refine px (fun _ => pm_iconst (v := 1) (pc := 125) d_Mo_prepare_125 rfl) ?_
        refine px (fun _ => pm_iast (j := n) (pc := 126) d_Mo_prepare_126 H7.2.2.2.2.2.2.2.2.2.2.2.1 (rfl) (h14) (by decide)) ?_
        have H_4 : mH (msA (msW T V W 0) 10 n 1) (h7.set (106) (pm_I 14 (va_up (fun j => nI (mA (msW T V W 0) 10 j)) (n) (1)))) := H7.A10 (j := n) (v := 1)
        refine px (fun _ => pm_iload_n (pc := 127) d_Mo_prepare_127 rfl) ?_
        refine px (fun _ => pm_iconst (v := 1) (pc := 128) d_Mo_prepare_128 rfl) ?_
        refine px (fun _ => pm_iload_n (pc := 129) d_Mo_prepare_129 rfl) ?_
        refine px (fun _ => pm_ishl (pc := 130) d_Mo_prepare_130) ?_
        refine px (fun _ => pm_ior (pc := 131) d_Mo_prepare_131) ?_
        refine px (fun _ => pm_istore_n (lv' := [(1, .int ((x ||| (1 <<< (nI n &&& 31))))), (3, .int (nI n)), (2, .int (nI pl)), (0, .ref (95))]) (pc := 132) d_Mo_prepare_132 (by decide) rfl) ?_
        refine px (fun _ => pm_aload_n (pc := 133) d_Mo_prepare_133 rfl) ?_
        refine px (fun _ => pm_dup (pc := 134) d_Mo_prepare_134 rfl) ?_
        refine px (fun _ => pm_getf fl_Mo_61 (pc := 135) d_Mo_prepare_135 H_4.1 rfl) ?_
        refine px (fun _ => pm_iconst (v := 1) (pc := 138) d_Mo_prepare_138 rfl) ?_
        refine px (fun _ => pm_iaddN (a := (mG (msA (msW T V W 0) 10 n 1) 1)) (b := 1) (pc := 139) d_Mo_prepare_139) ?_
        refine px (fun _ => pm_putfC (c' := pm_Ob 4 [.ref (96), .ref (97), .ref (98), .ref (99), .ref (100), .ref (101), .ref (102), .ref (103), .ref (104), .ref (105), .ref (106), .ref (107), .ref (108), .ref (109), .int (nI (mG (msA (msW T V W 0) 10 n 1) 0)), .int (nI ((mG (msA (msW T V W 0) 10 n 1) 1) + 1)), .int (nI (mG (msA (msW T V W 0) 10 n 1) 2)), .int (nI (mG (msA (msW T V W 0) 10 n 1) 3)), .int (nI (mG (msA (msW T V W 0) 10 n 1) 4)), .int (nI (mG (msA (msW T V W 0) 10 n 1) 5)), .int (nI (mG (msA (msW T V W 0) 10 n 1) 6))]) fp_Mo_61 (pc := 140) d_Mo_prepare_140 H_4.1 (Nat.le_of_ble_eq_true rfl) rfl rfl rfl) ?_
        have H_5 : mH (msG (msA (msW T V W 0) 10 n 1) 1 (mG T 1 + 1)) ((h7.set (106) (pm_I 14 (va_up (fun j => nI (mA (msW T V W 0) 10 j)) (n) (1)))).set (95) (pm_Ob 4 [.ref (96), .ref (97), .ref (98), .ref (99), .ref (100), .ref (101), .ref (102), .ref (103), .ref (104), .ref (105), .ref (106), .ref (107), .ref (108), .ref (109), .int (nI (mG (msA (msW T V W 0) 10 n 1) 0)), .int (nI ((mG (msA (msW T V W 0) 10 n 1) 1) + 1)), .int (nI (mG (msA (msW T V W 0) 10 n 1) 2)), .int (nI (mG (msA (msW T V W 0) 10 n 1) 3)), .int (nI (mG (msA (msW T V W 0) 10 n 1) 4)), .int (nI (mG (msA (msW T V W 0) 10 n 1) 5)), .int (nI (mG (msA (msW T V W 0) 10 n 1) 6))])) := H_4.G1 (v := mG T 1 + 1)
        refine px (fun _ => pm_iinc (x := nI pl) (v := nI (pl + 1)) (lv' := [(2, .int (nI (pl + 1))), (1, .int ((x ||| (1 <<< (nI n &&& 31))))), (3, .int (nI n)), (0, .ref (95))]) (pc := 143) d_Mo_prepare_143 rfl (nI_1 _) (by decide) rfl) ?_
        refine px (fun _ => pm_goto (tgt := 87) (pc := 146) d_Mo_prepare_146 (by decide)) ?_
        refine pxd [0, 1, 3] rfl ?_
        exact K _ _ _ H_5 (F.tr ((F7).tr (((mFr.set _ _ (by omega))).tr ((mFr.set _ _ (by omega)))))) R8
      · have n7 : ¬ nI (m_er e7) = 0 := by have l7 := g_end_le he; unfold m_er; rw [if_neg z7]; exact nI_ne0 (by omega) (by omega)
        have R8 : gFR (gsN (gsC S (gN S n 2) f) n 4 (if e7 = 0 then 1 else 0)) (msW T V W (m_er e7)) x := by { rw [if_neg z7, g_gsN_id (S := gsC S (gN S n 2) f) f4]; exact R7 }
        refine px (fun _ => k_Mo_prepare_114 (kc1 := 0) (ks1 := 0) (kc := 0) (ks := 0) (av := [.int (nI n)]) (st := []) H.1 (en7) rfl rfl (Nat.le_of_ble_eq_true rfl)) ?_
        refine pxn (fun _ => pm_if_ne (pc := 117) (tgt := 143) d_Mo_prepare_117 (by decide)) (fun c_6 => ?_) (fun c_6 => absurd c_6 (n7))
        refine px (fun _ => pm_iinc (x := nI pl) (v := nI (pl + 1)) (lv' := [(2, .int (nI (pl + 1))), (3, .int (nI n)), (1, .int (x)), (0, .ref (95))]) (pc := 143) d_Mo_prepare_143 rfl (nI_1 _) (by decide) rfl) ?_
        refine px (fun _ => pm_goto (tgt := 87) (pc := 146) d_Mo_prepare_146 (by decide)) ?_
        refine pxd [0, 2, 3] rfl ?_
        exact K _ _ _ H7 (F.tr (F7)) R8
    · have R8 : gFR (gsN S n 4 0) T x := by { rw [g_gsN_id f4]; exact R }
      refine px (fun _ => k_Mo_prepare_106 (kc1 := 0) (ks1 := 0) (kc := 0) (ks := 0) (av := [.int (nI n), .int (x), .int (1)]) (st := []) H.1 ((by have k9 := m_there4 (l := l) (G := G) (fi := fi) hl H hR0 hW hV hU hJ hn R.2.2; rw [if_neg ha] at k9; exact k9)) rfl rfl (Nat.le_of_ble_eq_true rfl)) ?_
      refine pxb (fun _ => pm_if_eq (pc := 109) (tgt := 143) d_Mo_prepare_109 (by decide)) (fun c_7 => ?_) (fun c_7 => absurd (by decide) c_7)
      refine px (fun _ => pm_iinc (x := nI pl) (v := nI (pl + 1)) (lv' := [(2, .int (nI (pl + 1))), (3, .int (nI n)), (1, .int (x)), (0, .ref (95))]) (pc := 143) d_Mo_prepare_143 rfl (nI_1 _) (by decide) rfl) ?_
      refine px (fun _ => pm_goto (tgt := 87) (pc := 146) d_Mo_prepare_146 (by decide)) ?_
      refine pxd [0, 2, 3] rfl ?_
      exact K _ _ _ H F R8
set_option maxHeartbeats 1000000 in
set_option maxRecDepth 20000 in
theorem m_prep_ok {l : Launch} {G : pm_G} {fi : Bool} {h : pm_H} {S S2 S3 : gS} {T : mS} (hl : l.stackTraces = false) (H : mH T h) (hW : gW S) (hV : gV S) (hU : gU S) (hJ : gJ S) (hR : gR0 S T) (hr : mG T 6 = 0) (eo : (g_o1 S).1 = true) (hO1 : gOk (g_o1 S).2) (hW1 : gW (g_o1 S).2) (hfd : ∀ s, s < 20 → g_fed S s → mTb S T s ∧ mCl S T s) (es : g_shL (gG (g_o1 S).2 0) 0 (g_o1 S).2 = some S2) (f0 : gFI S2 (gG S2 0) 0 S2) (tr : g_tr S2 (gG S2 0) S3) (t1 : mG T 1 = 0) (t10 : ∀ n, n < gG S 0 → mA T 10 n = 0) : pm_Cn l G fi fi 0 0 M_Mo_prepare [.ref 95] h (fun r => ∃ T', r.1 = .inl (some (.int (nI (mG T' 1)))) ∧ mH T' r.2 ∧ mFr h r.2 ∧ mG T' 5 = 0 ∧ gR (gRy S3) T') := by
  refine pm_Cn.of hl (by decide) (Nat.le_of_ble_eq_true rfl) ?_
  have q1 : g_eqO S (g_o1 S).2 := (g_eqO.clr S 0 (gG S 0)).tr (g_ordL_eq _ _ _ _)
  have eG1 : gG (g_o1 S).2 = gG S := q1.1
  refine px (fun _ => pm_aload_n (pc := 0) d_Mo_prepare_0 rfl) ?_
  refine px (fun _ => pm_iconst (v := 0) (pc := 1) d_Mo_prepare_1 rfl) ?_
  refine px (fun _ => pm_putfC (c' := pm_Ob 4 [.ref (96), .ref (97), .ref (98), .ref (99), .ref (100), .ref (101), .ref (102), .ref (103), .ref (104), .ref (105), .ref (106), .ref (107), .ref (108), .ref (109), .int (nI (mG T 0)), .int (nI (mG T 1)), .int (nI (mG T 2)), .int (nI (mG T 3)), .int (nI (mG T 4)), .int (0), .int (nI (mG T 6))]) fp_Mo_57 (pc := 2) d_Mo_prepare_2 H.1 (Nat.le_of_ble_eq_true rfl) rfl rfl rfl) ?_
  have H_1 : mH (msG T 5 0) (h.set (95) (pm_Ob 4 [.ref (96), .ref (97), .ref (98), .ref (99), .ref (100), .ref (101), .ref (102), .ref (103), .ref (104), .ref (105), .ref (106), .ref (107), .ref (108), .ref (109), .int (nI (mG T 0)), .int (nI (mG T 1)), .int (nI (mG T 2)), .int (nI (mG T 3)), .int (nI (mG T 4)), .int (0), .int (nI (mG T 6))])) := H.G5 (v := 0)
  refine px (fun _ => pm_aload_n (pc := 5) d_Mo_prepare_5 rfl) ?_
  refine px (fun _ => pm_getf fl_Mo_53 (pc := 6) d_Mo_prepare_6 H_1.1 rfl) ?_
  refine pxb (fun _ => pm_if_eq (pc := 9) (tgt := 17) d_Mo_prepare_9 (by decide)) (fun c_2 => ?_) (fun c_2 => absurd (show nI (mG T 6) = 0 by rw [hr]; rfl) c_2)
  refine px (fun _ => pm_aload_n (pc := 17) d_Mo_prepare_17 rfl) ?_
  refine px (fun _ => pm_aload_n (pc := 18) d_Mo_prepare_18 rfl) ?_
  obtain ⟨⟨o9, h9⟩, ⟨T9, e9, H9, F9, q9, z9⟩, en9⟩ := m_ordered (l := l) (G := G) (fi := fi) (S := S) (T := msG T 5 0) hl H_1 hW hV hU hJ hR
  dsimp only at e9 H9 F9
  rw [if_pos eo] at e9
  subst e9
  refine px (fun _ => k_Mo_prepare_19 (kc1 := 0) (ks1 := 0) (kc := 0) (ks := 0) (av := []) (st := [.ref (95)]) H_1.1 (en9) rfl rfl (Nat.le_of_ble_eq_true rfl)) ?_
  refine pxb (fun _ => pm_if_eq (pc := 22) (tgt := 29) d_Mo_prepare_22 (by decide)) (fun c_3 => absurd c_3 (by decide)) (fun c_3 => ?_)
  refine px (fun _ => pm_iconst (v := 0) (pc := 25) d_Mo_prepare_25 rfl) ?_
  refine px (fun _ => pm_goto (tgt := 30) (pc := 26) d_Mo_prepare_26 (by decide)) ?_
  refine px (fun _ => pm_putfC (c' := pm_Ob 4 [.ref (96), .ref (97), .ref (98), .ref (99), .ref (100), .ref (101), .ref (102), .ref (103), .ref (104), .ref (105), .ref (106), .ref (107), .ref (108), .ref (109), .int (nI (mG T9 0)), .int (nI (mG T9 1)), .int (nI (mG T9 2)), .int (nI (mG T9 3)), .int (nI (mG T9 4)), .int (0), .int (nI (mG T9 6))]) fp_Mo_57 (pc := 30) d_Mo_prepare_30 H9.1 (Nat.le_of_ble_eq_true rfl) rfl rfl rfl) ?_
  have H_4 : mH (msG T9 5 0) (h9.set (95) (pm_Ob 4 [.ref (96), .ref (97), .ref (98), .ref (99), .ref (100), .ref (101), .ref (102), .ref (103), .ref (104), .ref (105), .ref (106), .ref (107), .ref (108), .ref (109), .int (nI (mG T9 0)), .int (nI (mG T9 1)), .int (nI (mG T9 2)), .int (nI (mG T9 3)), .int (nI (mG T9 4)), .int (0), .int (nI (mG T9 6))])) := H9.G5 (v := 0)
  refine px (fun _ => pm_iconst (v := 0) (pc := 33) d_Mo_prepare_33 rfl) ?_
  refine px (fun _ => pm_istore_n (lv' := [(1, .int (0)), (0, .ref (95))]) (pc := 34) d_Mo_prepare_34 (by decide) rfl) ?_
  refine pxd [0, 1] rfl ?_
  have mq9 : mqP (g_o1 S).2 T (msG T9 5 0) := q9.P 0
  have r19 : gR1 (g_o1 S).2 (msG T9 5 0) := ((show gR1 S T from ⟨hR, hfd⟩).eqO q1).mq (q1.J hJ) mq9
  have sr9 : gSR (g_o1 S).2 (msG T9 5 0) 0 := ⟨r19, fun k hk => z9 eo k (by rw [eG1] at hk; exact hk), fun i hi => by omega⟩
  refine lp_msh (h0 := h) (S0 := (g_o1 S).2) (T0 := T) hl (gG (g_o1 S).2 0) 0 (g_o1 S).2 _ _ H_4 (((mFr.set _ _ (by omega))).tr ((F9).tr ((mFr.set _ _ (by omega))))) mq9 ⟨gT (g_o1 S).2, rfl⟩ hW1 (q1.V hV) (q1.U hU) (q1.J hJ) hO1 sr9 rfl (by omega) ?_ ?_
  · intro S9 T2 h2 e2 H2 F2 Q2 R2 t2
    have e3 : S9 = S2 := Option.some.inj (e2.symm.trans es)
    subst e3
    have f3 := f0.of _ S3 (Nat.le_refl _) tr
    obtain ⟨-, I0, -, r0, a4, a5, w0⟩ := id f0
    have hO2 : gOk S9 := (I0.2.2.2.2.2.2.1 rfl).1
    have hJ2 : gJ S9 := I0.2.2.2.1
    have eg2 : gG S9 0 = gG (g_o1 S).2 0 := (R2.1.1.1).symm.trans (Q2.1 0 (by decide) (by decide) |>.trans (hR.1.trans (by rw [eG1])))
    have fl2 : ∀ n, n < gG S9 0 → gN S9 n 4 = 0 ∧ gN S9 n 5 = 0 := fun n hn => ⟨by { obtain ⟨pos, p1, -, -⟩ := hO2; have z := p1 n hn; have := a4 (pos n) (by omega) z.1; rw [z.2] at this; exact this }, a5 n hn⟩
    have R3 : gFR S9 T2 0 := by
      refine ⟨gR_ready hJ2 R2.1 fl2 (fun k hk => R2.2.1 k hk) (fun n hn => ?_) ?_ (fun n hn => ?_), t2, fun m hm => ?_⟩
      · obtain ⟨pos, p1, -, -⟩ := hO2; have z := p1 n hn; have := R2.2.2 (pos n) (by rw [← eg2]; exact z.1); rw [z.2] at this; exact this
      · rw [Q2.1 1 (by decide) (by decide)]; exact t1
      · rw [Q2.2.1 10 n (by decide) (by omega)]; exact t10 n (by rw [← eG1, ← eg2]; exact hn)
      · rw [(fl2 m hm).1]; exact ⟨fun q => by omega, fun q => absurd (mBt_0 m) q⟩
    refine px (fun _ => pm_iconst (v := 0) (pc := 83) d_Mo_prepare_83 rfl) ?_
    refine px (fun _ => pm_istore_n (lv' := [(1, .int (0)), (0, .ref (95))]) (pc := 84) d_Mo_prepare_84 (by decide) rfl) ?_
    refine px (fun _ => pm_iconst (v := 0) (pc := 85) d_Mo_prepare_85 rfl) ?_
    refine px (fun _ => pm_istore_n (lv' := [(2, .int (0)), (1, .int (0)), (0, .ref (95))]) (pc := 86) d_Mo_prepare_86 (by decide) rfl) ?_
    refine pxd [0, 1, 2] rfl ?_
    refine lp_mf (h0 := h) hl f0 (gG S9 0) S3 (Nat.le_refl _) tr ?_ T2 0 h2 H2 F2 R3
    intro T5 x5 h5 H5 F5 R5
    have e5 : mG T5 0 = gG S3 0 := R5.1.1.1
    have g3 := f3.2.2.1
    have w3 := f3.2.2.2.2.2.2.1
    refine px (fun _ => pm_iload_n (pc := 87) d_Mo_prepare_87 rfl) ?_
    refine px (fun _ => pm_aload_n (pc := 88) d_Mo_prepare_88 rfl) ?_
    refine px (fun _ => pm_getf fl_Mo_82 (pc := 89) d_Mo_prepare_89 H5.1 rfl) ?_
    refine pxb (fun _ => pm_icmp_ge (pc := 92) (tgt := 149) d_Mo_prepare_92 (by decide)) (fun c_5 => ?_) (fun c_5 => absurd (by rw [e5, g3]; exact (nI_leI (a := gG S9 0) (b := gG S9 0) (by omega) (by omega)).mpr (by omega)) c_5)
    refine px (fun _ => pm_aload_n (pc := 149) d_Mo_prepare_149 rfl) ?_
    refine px (fun _ => pm_iconst (v := 1) (pc := 150) d_Mo_prepare_150 rfl) ?_
    refine px (fun _ => pm_putfC (c' := pm_Ob 4 [.ref (96), .ref (97), .ref (98), .ref (99), .ref (100), .ref (101), .ref (102), .ref (103), .ref (104), .ref (105), .ref (106), .ref (107), .ref (108), .ref (109), .int (nI (mG T5 0)), .int (nI (mG T5 1)), .int (nI (mG T5 2)), .int (nI (mG T5 3)), .int (nI (mG T5 4)), .int (nI (mG T5 5)), .int (1)]) fp_Mo_53 (pc := 151) d_Mo_prepare_151 H5.1 (Nat.le_of_ble_eq_true rfl) rfl rfl rfl) ?_
    have H_6 : mH (msG T5 6 1) (h5.set (95) (pm_Ob 4 [.ref (96), .ref (97), .ref (98), .ref (99), .ref (100), .ref (101), .ref (102), .ref (103), .ref (104), .ref (105), .ref (106), .ref (107), .ref (108), .ref (109), .int (nI (mG T5 0)), .int (nI (mG T5 1)), .int (nI (mG T5 2)), .int (nI (mG T5 3)), .int (nI (mG T5 4)), .int (nI (mG T5 5)), .int (1)])) := H5.G6 (v := 1)
    refine px (fun _ => pm_aload_n (pc := 154) d_Mo_prepare_154 rfl) ?_
    refine px (fun _ => pm_getf fl_Mo_61 (pc := 155) d_Mo_prepare_155 H_6.1 rfl) ?_
    exact pxr (pm_iret (pc := 158) d_Mo_prepare_158 rfl rfl) ⟨msG T5 6 1, rfl, H_6, F5.tr ((mFr.set _ _ (by omega))), R5.2.1, R5.1⟩
  · intro q
    rw [es] at q; cases q
