/-! ===== the class: runFor ===== -/
theorem g_dec1 : ∀ m, m < 20 → 1 ≤ m → nI m + -1 = nI (m - 1) := by decide +kernel
theorem g_nn1 {t : Nat} (h : t < 1000) : ¬ nI t = -1 := by
  intro q; have q2 := congrArg Int32.toInt q; rw [nI_toInt (by omega)] at q2; have q3 : ((-1 : Int32)).toInt = -1 := rfl; omega
/-- what a walk of runFor keeps to: the step, how many are open, the state -/
def g_RI (Inv : Nat → Nat → gS → Prop) (Bad : Nat → gS → Prop) : Prop :=
  (∀ k m S, Inv k m S → gW S ∧ gV S ∧ gU S ∧ m ≤ 14 ∧ (1 ≤ m → gP S (m - 1) < gG S 0 ∧ (g_fn1 S (gP S (m - 1)) = none → g_pre S (gP S (m - 1))) ∧ ∀ t, g_fn1 S (gP S (m - 1)) = some t → t < 20 ∧ m < 14)) ∧
  (∀ k m S f, Inv k m S → 1 ≤ m → g_fn1 S (gP S (m - 1)) = none → g_end S (gP S (m - 1)) 0 → g_inv (g_En S (gP S (m - 1))) (gT S (gN S (gP S (m - 1)) 2) 2) f (gT S (gN S (gP S (m - 1)) 2) 1) 0 → Inv (k + 1) (m - 1) (g_lrn S (gP S (m - 1)) 0 f)) ∧
  (∀ k m S f e, Inv k m S → 1 ≤ m → g_fn1 S (gP S (m - 1)) = none → g_end S (gP S (m - 1)) e → ¬ e = 0 → Bad e (g_lrn S (gP S (m - 1)) e f)) ∧
  (∀ k m S t, Inv k m S → 1 ≤ m → g_fn1 S (gP S (m - 1)) = some t → Inv (k + 1) (m + 1) (gsP S m (gK S t 1)))
abbrev g_PR (Inv : Nat → Nat → gS → Prop) (Bad : Nat → gS → Prop) (h : pm_H) : pm_O × pm_H → Prop := fun r => gFr h r.2 ∧ ((r.1 = .inl (some (.int 0)) ∧ ∃ k m S, Inv k m S ∧ (28 ≤ k ∨ m = 0) ∧ gH S r.2) ∨ ∃ e S, ¬ e = 0 ∧ e ≤ 2 ∧ r.1 = .inl (some (.int (nI e))) ∧ Bad e S ∧ gH S r.2)
set_option maxHeartbeats 4000000 in
set_option maxRecDepth 20000 in
theorem lp_run {l : Launch} {G : pm_G} {fi : Bool} {Inv : Nat → Nat → gS → Prop} {Bad : Nat → gS → Prop} {s : Nat} (hl : l.stackTraces = false) (hR : g_RI Inv Bad) : ∀ (d k m : Nat) (S : gS) (h : pm_H), gH S h → Inv k m S → k + d = 28 → pm_Px l G fi fi 0 0 M_Gr_runFor 30 [(3, .int (nI k)), (2, .int (nI m)), (0, .ref (0)), (1, .int (nI s))] [] h (g_PR Inv Bad h) := by
  obtain ⟨hI, hA, hB, hC⟩ := id hR
  intro d
  induction d with
  | zero =>
    intro k m S h H iv hd9
    refine px (fun _ => pm_iload_n (pc := 30) d_Gr_runFor_30 rfl) ?_
    refine px (fun _ => pm_bipush (v := 28) (pc := 31) d_Gr_runFor_31 rfl) ?_
    refine pxb (fun _ => pm_icmp_ge (pc := 33) (tgt := 122) d_Gr_runFor_33 (by decide)) (fun c_1 => ?_) (fun c_1 => absurd ((nI_leI (a := 28) (b := k) (by omega) (by omega)).mpr (by omega)) c_1)
    refine px (fun _ => pm_iconst (v := 0) (pc := 122) d_Gr_runFor_122 rfl) ?_
    exact pxr (pm_iret (pc := 123) d_Gr_runFor_123 rfl rfl) ⟨gFr.rf h, Or.inl ⟨rfl, k, m, S, iv, Or.inl (by omega), H⟩⟩
  | succ d ih =>
    intro k m S h H iv hd9
    obtain ⟨hW, hV, hU, hm14, hx⟩ := hI k m S iv
    have b1 := hW.1
    have hA9 := hA k m S
    have hB9 := hB k m S
    have hC9 := hC k m S
    obtain ⟨n, en⟩ : ∃ n, n = gP S (m - 1) := ⟨_, rfl⟩
    rw [← en] at hx hA9 hB9 hC9
    refine px (fun _ => pm_iload_n (pc := 30) d_Gr_runFor_30 rfl) ?_
    refine px (fun _ => pm_bipush (v := 28) (pc := 31) d_Gr_runFor_31 rfl) ?_
    refine pxb (fun _ => pm_icmp_ge (pc := 33) (tgt := 122) d_Gr_runFor_33 (by decide)) (fun c_1 => absurd c_1 (fun q => absurd ((nI_leI (a := 28) (b := k) (by omega) (by omega)).mp q) (by omega))) (fun c_1 => ?_)
    refine px (fun _ => pm_iload_n (pc := 36) d_Gr_runFor_36 rfl) ?_
    refine pxb (fun _ => pm_if_le (pc := 37) (tgt := 122) d_Gr_runFor_37 (by decide)) (fun c_2 => ?_) (fun c_2 => ?_)
    · have n_c_2 : m ≤ 0 := (nI_leI (a := m) (b := 0) (by omega) (by omega)).mp c_2
      refine px (fun _ => pm_iconst (v := 0) (pc := 122) d_Gr_runFor_122 rfl) ?_
      exact pxr (pm_iret (pc := 123) d_Gr_runFor_123 rfl rfl) ⟨gFr.rf h, Or.inl ⟨rfl, k, m, S, iv, Or.inr (by omega), H⟩⟩
    · have n_c_2 : ¬ (m ≤ 0) := fun q => c_2 ((nI_leI (a := m) (b := 0) (by omega) (by omega)).mpr q)
      refine px (fun _ => pm_aload_n (pc := 40) d_Gr_runFor_40 rfl) ?_
      refine px (fun _ => pm_getf fl_Gr_17 (pc := 41) d_Gr_runFor_41 H.1 rfl) ?_
      refine px (fun _ => pm_aload_n (pc := 44) d_Gr_runFor_44 rfl) ?_
      refine px (fun _ => pm_getf fl_Gr_25 (pc := 45) d_Gr_runFor_45 H.1 rfl) ?_
      refine px (fun _ => pm_iload_n (pc := 48) d_Gr_runFor_48 rfl) ?_
      refine px (fun _ => pm_iconst (v := 1) (pc := 49) d_Gr_runFor_49 rfl) ?_
      refine px (fun _ => pm_isubN (a := m) (b := 1) (pc := 50) d_Gr_runFor_50 (by omega)) ?_
      refine px (fun _ => pm_iald (j := m - 1) (pc := 51) d_Gr_runFor_51 H.2.2.2.2.1 (rfl) ((by omega)) (by decide)) ?_
      rw [← en]
      have m1 : 1 ≤ m := by omega
      obtain ⟨hm9, hpre, hso⟩ := hx m1
      have hn : n < 14 := by omega
      obtain ⟨f_3, hf_4, gf_5⟩ := id H.2.2.1
      refine px (fun _ => pm_aald (kd := 4) (Cn := "GraphRunner$Node") (j := n) (pc := 52) d_Gr_runFor_52 (fun _ => rfl) hf_4 (rfl) (hn) (by decide) (gf_5 n hn)) ?_
      refine px (fun _ => pm_astore (lv' := [(4, .ref (67 + 2 * n)), (3, .int (nI k)), (2, .int (nI m)), (0, .ref (0)), (1, .int (nI s))]) (pc := 53) d_Gr_runFor_53 (by decide) rfl) ?_
      refine px (fun _ => pm_aload_n (pc := 55) d_Gr_runFor_55 rfl) ?_
      refine px (fun _ => pm_aload (pc := 56) d_Gr_runFor_56 rfl) ?_
      cases ho : g_fn1 S n with
      | none =>
        refine px (fun _ => k_Gr_runFor_58 (kc1 := 0) (ks1 := 0) (kc := 0) (ks := 0) (av := [.ref (67 + 2 * n)]) (st := []) H.1 ((by have k9 := c_fn1 (l := l) (G := G) (fi := fi) hl H hW hV hU hm9; rw [ho] at k9; exact k9)) rfl rfl (Nat.le_of_ble_eq_true rfl)) ?_
        refine px (fun _ => pm_istore (lv' := [(5, .int (-1)), (4, .ref (67 + 2 * n)), (3, .int (nI k)), (2, .int (nI m)), (0, .ref (0)), (1, .int (nI s))]) (pc := 61) d_Gr_runFor_61 (by decide) rfl) ?_
        refine px (fun _ => pm_iload (pc := 63) d_Gr_runFor_63 rfl) ?_
        refine px (fun _ => pm_iconst (v := -1) (pc := 65) d_Gr_runFor_65 rfl) ?_
        refine pxn (fun _ => pm_icmp_ne (pc := 66) (tgt := 91) d_Gr_runFor_66 (by decide)) (fun c_6 => absurd (by decide) c_6) (fun c_6 => ?_)
        refine px (fun _ => pm_aload_n (pc := 69) d_Gr_runFor_69 rfl) ?_
        refine px (fun _ => pm_aload (pc := 70) d_Gr_runFor_70 rfl) ?_
        obtain ⟨⟨o7, h7⟩, ⟨f7, e7, H7, F7, r7, ge, gi⟩, en7⟩ := c_learn (l := l) (G := G) (fi := fi) hl H hW hV hU hm9 (hpre ho)
        dsimp only at H7 F7 r7
        subst r7
        have le7 := g_end_le ge
        refine px (fun _ => k_Gr_runFor_72 (kc1 := 0) (ks1 := 0) (kc := 0) (ks := 0) (av := [.ref (67 + 2 * n)]) (st := []) H.1 (en7) rfl rfl (Nat.le_of_ble_eq_true rfl)) ?_
        refine px (fun _ => pm_istore (lv' := [(6, .int (nI e7)), (5, .int (-1)), (4, .ref (67 + 2 * n)), (3, .int (nI k)), (2, .int (nI m)), (0, .ref (0)), (1, .int (nI s))]) (pc := 75) d_Gr_runFor_75 (by decide) rfl) ?_
        refine px (fun _ => pm_iload (pc := 77) d_Gr_runFor_77 rfl) ?_
        refine pxb (fun _ => pm_if_eq (pc := 79) (tgt := 85) d_Gr_runFor_79 (by decide)) (fun c_7 => ?_) (fun c_7 => ?_)
        · have n_c_7 : e7 = 0 := (nI_eq (a := e7) (b := 0) (by omega) (by omega)).mp c_7
          refine px (fun _ => pm_iinc (x := nI m) (v := (nI m + -1)) (lv' := [(2, .int ((nI m + -1))), (6, .int (nI e7)), (5, .int (-1)), (4, .ref (67 + 2 * n)), (3, .int (nI k)), (0, .ref (0)), (1, .int (nI s))]) (pc := 85) d_Gr_runFor_85 rfl (rfl) (by decide) rfl) ?_
          rw [g_dec1 m (by omega) m1]
          refine px (fun _ => pm_goto (tgt := 116) (pc := 88) d_Gr_runFor_88 (by decide)) ?_
          refine px (fun _ => pm_iinc (x := nI k) (v := nI (k + 1)) (lv' := [(3, .int (nI (k + 1))), (2, .int (nI (m - 1))), (6, .int (nI e7)), (5, .int (-1)), (4, .ref (67 + 2 * n)), (0, .ref (0)), (1, .int (nI s))]) (pc := 116) d_Gr_runFor_116 rfl (nI_1 _) (by decide) rfl) ?_
          refine px (fun _ => pm_goto (tgt := 30) (pc := 119) d_Gr_runFor_119 (by decide)) ?_
          refine pxd [0, 1, 5, 6] rfl ?_
          have e0 : e7 = 0 := by assumption
          subst e0
          exact pxm (ih (k + 1) (m - 1) _ _ H7 (hA9 f7 iv m1 ho ge (gi rfl)) (by omega)) (fun r q => ⟨F7.tr q.1, q.2⟩)
        · have n_c_7 : ¬ (e7 = 0) := fun q => c_7 ((nI_eq (a := e7) (b := 0) (by omega) (by omega)).mpr q)
          refine px (fun _ => pm_iload (pc := 82) d_Gr_runFor_82 rfl) ?_
          exact pxr (pm_iret (pc := 84) d_Gr_runFor_84 rfl rfl) ⟨F7, Or.inr ⟨e7, _, by assumption, le7, rfl, hB9 f7 e7 iv m1 ho ge (by assumption), H7⟩⟩
      | some t =>
        have ht := hso t ho
        have hmm : m < 14 := ht.2
        refine px (fun _ => k_Gr_runFor_58 (kc1 := 0) (ks1 := 0) (kc := 0) (ks := 0) (av := [.ref (67 + 2 * n)]) (st := []) H.1 ((by have k9 := c_fn1 (l := l) (G := G) (fi := fi) hl H hW hV hU hm9; rw [ho] at k9; exact k9)) rfl rfl (Nat.le_of_ble_eq_true rfl)) ?_
        refine px (fun _ => pm_istore (lv' := [(5, .int (nI t)), (4, .ref (67 + 2 * n)), (3, .int (nI k)), (2, .int (nI m)), (0, .ref (0)), (1, .int (nI s))]) (pc := 61) d_Gr_runFor_61 (by decide) rfl) ?_
        refine px (fun _ => pm_iload (pc := 63) d_Gr_runFor_63 rfl) ?_
        refine px (fun _ => pm_iconst (v := -1) (pc := 65) d_Gr_runFor_65 rfl) ?_
        refine pxn (fun _ => pm_icmp_ne (pc := 66) (tgt := 91) d_Gr_runFor_66 (by decide)) (fun c_8 => ?_) (fun c_8 => absurd c_8 (g_nn1 (by omega)))
        refine px (fun _ => pm_iload_n (pc := 91) d_Gr_runFor_91 rfl) ?_
        refine px (fun _ => pm_bipush (v := 14) (pc := 92) d_Gr_runFor_92 rfl) ?_
        refine pxb (fun _ => pm_icmp_ge (pc := 94) (tgt := 116) d_Gr_runFor_94 (by decide)) (fun c_9 => absurd c_9 (fun q => absurd ((nI_leI (a := 14) (b := m) (by omega) (by omega)).mp q) (by omega))) (fun c_9 => ?_)
        refine px (fun _ => pm_aload_n (pc := 97) d_Gr_runFor_97 rfl) ?_
        refine px (fun _ => pm_getf fl_Gr_25 (pc := 98) d_Gr_runFor_98 H.1 rfl) ?_
        refine px (fun _ => pm_iload_n (pc := 101) d_Gr_runFor_101 rfl) ?_
        refine px (fun _ => pm_iinc (x := nI m) (v := nI (m + 1)) (lv' := [(2, .int (nI (m + 1))), (5, .int (nI t)), (4, .ref (67 + 2 * n)), (3, .int (nI k)), (0, .ref (0)), (1, .int (nI s))]) (pc := 102) d_Gr_runFor_102 rfl (nI_1 _) (by decide) rfl) ?_
        refine px (fun _ => pm_aload_n (pc := 105) d_Gr_runFor_105 rfl) ?_
        refine px (fun _ => pm_getf fl_Gr_11 (pc := 106) d_Gr_runFor_106 H.1 rfl) ?_
        refine px (fun _ => pm_iload (pc := 109) d_Gr_runFor_109 rfl) ?_
        obtain ⟨f_10, hf_11, gf_12⟩ := id H.2.1
        refine px (fun _ => pm_aald (kd := 3) (Cn := "GraphRunner$Slot") (j := t) (pc := 111) d_Gr_runFor_111 (fun _ => rfl) hf_11 (rfl) (ht.1) (by decide) (gf_12 t ht.1)) ?_
        refine px (fun _ => pm_getf fl_Gr_125 (pc := 112) d_Gr_runFor_112 (H.2.2.2.2.2.2.1 t ht.1).1 rfl) ?_
        refine px (fun _ => pm_iast (j := m) (pc := 115) d_Gr_runFor_115 H.2.2.2.2.1 (rfl) (hmm) (by decide)) ?_
        have H_13 : gH (gsP S m (gK S t 1)) (h.set (4) (pm_I 14 (va_up (fun j => nI (gP S j)) (m) (nI (gK S t 1))))) := H.P (k := m) (v := (gK S t 1))
        refine px (fun _ => pm_iinc (x := nI k) (v := nI (k + 1)) (lv' := [(3, .int (nI (k + 1))), (2, .int (nI (m + 1))), (5, .int (nI t)), (4, .ref (67 + 2 * n)), (0, .ref (0)), (1, .int (nI s))]) (pc := 116) d_Gr_runFor_116 rfl (nI_1 _) (by decide) rfl) ?_
        refine px (fun _ => pm_goto (tgt := 30) (pc := 119) d_Gr_runFor_119 (by decide)) ?_
        refine pxd [0, 1, 4, 5] rfl ?_
        exact pxm (ih (k + 1) (m + 1) _ _ H_13 (hC9 t iv m1 ho) (by omega)) (fun r q => ⟨((gFr.set _ _ (by omega))).tr q.1, q.2⟩)
set_option maxHeartbeats 4000000 in
set_option maxRecDepth 20000 in
theorem c_runFor1 {l : Launch} {G : pm_G} {fi : Bool} {Inv : Nat → Nat → gS → Prop} {Bad : Nat → gS → Prop} {S : gS} {h : pm_H} {s : Nat} (hl : l.stackTraces = false) (H : gH S h) (hW : gW S) (hs : s < 20) (hR : g_RI Inv Bad) (ht : g_thP S s) (iv : Inv 0 0 S) : pm_Cn l G fi fi 0 0 M_Gr_runFor [.ref 0, .int (nI s)] h (g_PR Inv Bad h) := by
  refine pm_Cn.of hl (by decide) (Nat.le_of_ble_eq_true rfl) ?_
  refine px (fun _ => pm_iconst (v := 0) (pc := 0) d_Gr_runFor_0 rfl) ?_
  refine px (fun _ => pm_istore_n (lv' := [(2, .int (0)), (0, .ref (0)), (1, .int (nI s))]) (pc := 1) d_Gr_runFor_1 (by decide) rfl) ?_
  refine px (fun _ => pm_aload_n (pc := 2) d_Gr_runFor_2 rfl) ?_
  refine px (fun _ => pm_iload_n (pc := 3) d_Gr_runFor_3 rfl) ?_
  refine px (fun _ => k_Gr_runFor_4 (kc1 := 0) (ks1 := 0) (kc := 0) (ks := 0) (av := [.int (nI s)]) (st := []) H.1 ((by have k9 := c_isThere (l := l) (G := G) (fi := fi) hl H hW hs; rw [if_pos ht] at k9; exact k9)) rfl rfl (Nat.le_of_ble_eq_true rfl)) ?_
  refine pxn (fun _ => pm_if_ne (pc := 7) (tgt := 28) d_Gr_runFor_7 (by decide)) (fun c_1 => ?_) (fun c_1 => absurd c_1 (by decide))
  refine px (fun _ => pm_iconst (v := 0) (pc := 28) d_Gr_runFor_28 rfl) ?_
  refine px (fun _ => pm_istore_n (lv' := [(3, .int (0)), (2, .int (0)), (0, .ref (0)), (1, .int (nI s))]) (pc := 29) d_Gr_runFor_29 (by decide) rfl) ?_
  refine pxd [0, 1, 2, 3] rfl ?_
  exact pxm (lp_run hl hR 28 0 0 _ _ H iv (by omega)) (fun r q => ⟨(gFr.rf _).tr q.1, q.2⟩)
set_option maxHeartbeats 4000000 in
set_option maxRecDepth 20000 in
theorem c_runFor0 {l : Launch} {G : pm_G} {fi : Bool} {Inv : Nat → Nat → gS → Prop} {Bad : Nat → gS → Prop} {S : gS} {h : pm_H} {s : Nat} (hl : l.stackTraces = false) (H : gH S h) (hW : gW S) (hs : s < 20) (hR : g_RI Inv Bad) (ht : ¬ g_thP S s) (iv : Inv 0 1 (gsP S 0 (gK S s 1))) : pm_Cn l G fi fi 0 0 M_Gr_runFor [.ref 0, .int (nI s)] h (g_PR Inv Bad h) := by
  refine pm_Cn.of hl (by decide) (Nat.le_of_ble_eq_true rfl) ?_
  refine px (fun _ => pm_iconst (v := 0) (pc := 0) d_Gr_runFor_0 rfl) ?_
  refine px (fun _ => pm_istore_n (lv' := [(2, .int (0)), (0, .ref (0)), (1, .int (nI s))]) (pc := 1) d_Gr_runFor_1 (by decide) rfl) ?_
  refine px (fun _ => pm_aload_n (pc := 2) d_Gr_runFor_2 rfl) ?_
  refine px (fun _ => pm_iload_n (pc := 3) d_Gr_runFor_3 rfl) ?_
  refine px (fun _ => k_Gr_runFor_4 (kc1 := 0) (ks1 := 0) (kc := 0) (ks := 0) (av := [.int (nI s)]) (st := []) H.1 ((by have k9 := c_isThere (l := l) (G := G) (fi := fi) hl H hW hs; rw [if_neg ht] at k9; exact k9)) rfl rfl (Nat.le_of_ble_eq_true rfl)) ?_
  refine pxn (fun _ => pm_if_ne (pc := 7) (tgt := 28) d_Gr_runFor_7 (by decide)) (fun c_1 => absurd (by decide) c_1) (fun c_1 => ?_)
  refine px (fun _ => pm_aload_n (pc := 10) d_Gr_runFor_10 rfl) ?_
  refine px (fun _ => pm_getf fl_Gr_25 (pc := 11) d_Gr_runFor_11 H.1 rfl) ?_
  refine px (fun _ => pm_iload_n (pc := 14) d_Gr_runFor_14 rfl) ?_
  refine px (fun _ => pm_iinc (x := 0) (v := (0 + 1)) (lv' := [(2, .int ((0 + 1))), (0, .ref (0)), (1, .int (nI s))]) (pc := 15) d_Gr_runFor_15 rfl (rfl) (by decide) rfl) ?_
  refine px (fun _ => pm_aload_n (pc := 18) d_Gr_runFor_18 rfl) ?_
  refine px (fun _ => pm_getf fl_Gr_11 (pc := 19) d_Gr_runFor_19 H.1 rfl) ?_
  refine px (fun _ => pm_iload_n (pc := 22) d_Gr_runFor_22 rfl) ?_
  obtain ⟨f_2, hf_3, gf_4⟩ := id H.2.1
  refine px (fun _ => pm_aald (kd := 3) (Cn := "GraphRunner$Slot") (j := s) (pc := 23) d_Gr_runFor_23 (fun _ => rfl) hf_3 (rfl) (hs) (by decide) (gf_4 s hs)) ?_
  refine px (fun _ => pm_getf fl_Gr_125 (pc := 24) d_Gr_runFor_24 (H.2.2.2.2.2.2.1 s hs).1 rfl) ?_
  refine px (fun _ => pm_iast (j := 0) (pc := 27) d_Gr_runFor_27 H.2.2.2.2.1 (rfl) (by decide) (by decide)) ?_
  have H_5 : gH (gsP S 0 (gK S s 1)) (h.set (4) (pm_I 14 (va_up (fun j => nI (gP S j)) (0) (nI (gK S s 1))))) := H.P (k := 0) (v := (gK S s 1))
  refine px (fun _ => pm_iconst (v := 0) (pc := 28) d_Gr_runFor_28 rfl) ?_
  refine px (fun _ => pm_istore_n (lv' := [(3, .int (0)), (2, .int ((0 + 1))), (0, .ref (0)), (1, .int (nI s))]) (pc := 29) d_Gr_runFor_29 (by decide) rfl) ?_
  refine pxd [0, 1, 2, 3] rfl ?_
  exact pxm (lp_run hl hR 28 0 1 _ _ H_5 iv (by omega)) (fun r q => ⟨((gFr.set _ _ (by omega))).tr q.1, q.2⟩)
