/-! ===== the class: orderNodes, argument ===== -/
theorem pxd {l : Launch} {G : pm_G} {fi fo : Bool} {kc ks : Nat} {M : pm_M} {pc : Nat} {lv lv' : List (Nat × Value)} {st : List Value} {h : pm_H} {Post : pm_O × pm_H → Prop} (is : List Nat) (hk : is.filterMap (fun k => lv[k]?) = lv') (k : pm_Px l G fi fo kc ks M pc lv' st h Post) : pm_Px l G fi fo kc ks M pc lv st h Post := by
  obtain ⟨r, hp, e⟩ := k
  refine ⟨r, hp, e.to fun q hq => ?_⟩
  subst hk
  obtain ⟨i, -, hi⟩ := List.mem_filterMap.mp hq
  exact List.mem_of_getElem? hi
theorem gW.O {S : gS} (hW : gW S) {k v : Nat} (hv : v < 14) : gW (gsO S k v) := by
  obtain ⟨b1, b2, b3, b4, b5, b6⟩ := hW
  refine ⟨b1, b2, fun j => ?_, b4, b5, b6⟩
  simp only [gsO, gO, va_up]
  split
  · exact hv
  · exact b3 j
theorem gV.N {S : gS} (hV : gV S) {i k v : Nat} (hk : k ≠ 0) : gV (gsN S i k v) := by
  intro n hn j hj
  have e : gN (gsN S i k v) n 0 = gN S n 0 := g_up2_n _ _ (Or.inr (Ne.symm hk))
  rw [e] at hj
  exact hV n hn j hj
theorem gV.O {S : gS} (hV : gV S) {k v : Nat} : gV (gsO S k v) := hV
theorem gV.clrN {S : gS} (hV : gV S) {k i e : Nat} (hk : k ≠ 0) : gV (g_clrN S k i e) := by
  intro n hn j hj
  have e1 : gN (g_clrN S k i e) n 0 = gN S n 0 := by
    simp only [g_clrN, gN]
    rw [if_neg (fun q => hk q.1.symm)]
  rw [e1] at hj
  exact hV n hn j hj
def g_ordL (nc : Nat) : Nat → Nat → gS → Bool × gS
  | 0, _, S => (true, S)
  | d + 1, pl, S => match g_least (g_canO S) 0 nc with
    | none => (false, S)
    | some n => g_ordL nc d (pl + 1) (gsN (gsO S pl n) n 3 1)
set_option maxHeartbeats 4000000 in
set_option maxRecDepth 20000 in
theorem lp_ord1 {l : Launch} {G : pm_G} {fi : Bool} {Post : pm_O × pm_H → Prop} : ∀ (d i : Nat) (S : gS) (h : pm_H), gH S h → gW S → i + d = gG S 0 → (∀ h', gH (g_clrN S 3 i (gG S 0)) h' → gFr h h' → pm_Px l G fi fi 0 0 M_Gr_orderNodes 26 [(1, .int (nI (gG S 0))), (0, .ref 0)] [] h' Post) → pm_Px l G fi fi 0 0 M_Gr_orderNodes 2 [(1, .int (nI i)), (0, .ref (0))] [] h Post := by
  intro d
  induction d with
  | zero =>
    intro i S h H hW hb K
    obtain ⟨b1, b2, b3, b4, b5, b6⟩ := id hW
    have ei : i = gG S 0 := by omega
    subst ei
    refine px (fun _ => pm_iload_n (pc := 2) d_Gr_orderNodes_2 rfl) ?_
    refine px (fun _ => pm_aload_n (pc := 3) d_Gr_orderNodes_3 rfl) ?_
    refine px (fun _ => pm_getf fl_Gr_35 (pc := 4) d_Gr_orderNodes_4 H.1 rfl) ?_
    refine pxb (fun _ => pm_icmp_ge (pc := 7) (tgt := 26) d_Gr_orderNodes_7 (by decide)) (fun c_1 => ?_) (fun c_1 => absurd ((nI_leI (a := gG S 0) (b := gG S 0) (by omega) (by omega)).mpr (Nat.le_refl _)) c_1)
    exact K h (by rw [g_clrN_0]; exact H) (gFr.rf h)
  | succ d ih =>
    intro i S h H hW hb K
    obtain ⟨b1, b2, b3, b4, b5, b6⟩ := id hW
    have hi : i < 14 := by omega
    refine px (fun _ => pm_iload_n (pc := 2) d_Gr_orderNodes_2 rfl) ?_
    refine px (fun _ => pm_aload_n (pc := 3) d_Gr_orderNodes_3 rfl) ?_
    refine px (fun _ => pm_getf fl_Gr_35 (pc := 4) d_Gr_orderNodes_4 H.1 rfl) ?_
    refine pxb (fun _ => pm_icmp_ge (pc := 7) (tgt := 26) d_Gr_orderNodes_7 (by decide)) (fun c_1 => absurd c_1 (fun q => absurd ((nI_leI (a := gG S 0) (b := i) (by omega) (by omega)).mp q) (by omega))) (fun c_1 => ?_)
    refine px (fun _ => pm_aload_n (pc := 10) d_Gr_orderNodes_10 rfl) ?_
    refine px (fun _ => pm_getf fl_Gr_17 (pc := 11) d_Gr_orderNodes_11 H.1 rfl) ?_
    refine px (fun _ => pm_iload_n (pc := 14) d_Gr_orderNodes_14 rfl) ?_
    obtain ⟨f_2, hf_3, gf_4⟩ := id H.2.2.1
    refine px (fun _ => pm_aald (kd := 4) (Cn := "GraphRunner$Node") (j := i) (pc := 15) d_Gr_orderNodes_15 (fun _ => rfl) hf_3 (rfl) (hi) (by decide) (gf_4 i hi)) ?_
    refine px (fun _ => pm_iconst (v := 0) (pc := 16) d_Gr_orderNodes_16 rfl) ?_
    refine px (fun _ => pm_putfC (c' := pm_Ob 0 [.ref (68 + 2 * i), .int (nI (gN S i 0)), .int (nI (gN S i 1)), .int (nI (gN S i 2)), .int (gQ S i 0), .int (gQ S i 1), .int (0), .int (nI (gN S i 4)), .int (nI (gN S i 5))]) fp_Gr_184 (pc := 17) d_Gr_orderNodes_17 (H.2.2.2.2.2.2.2 i hi).1 (Nat.le_of_ble_eq_true rfl) rfl rfl rfl) ?_
    have H_5 : gH (gsN S i 3 0) (h.set (67 + 2 * i) (pm_Ob 0 [.ref (68 + 2 * i), .int (nI (gN S i 0)), .int (nI (gN S i 1)), .int (nI (gN S i 2)), .int (gQ S i 0), .int (gQ S i 1), .int (0), .int (nI (gN S i 4)), .int (nI (gN S i 5))])) := H.N3 (i := i) (v := 0) hi
    refine px (fun _ => pm_iinc (x := nI i) (v := nI (i + 1)) (lv' := [(1, .int (nI (i + 1))), (0, .ref (0))]) (pc := 20) d_Gr_orderNodes_20 rfl (nI_1 _) (by decide) rfl) ?_
    refine px (fun _ => pm_goto (tgt := 2) (pc := 23) d_Gr_orderNodes_23 (by decide)) ?_
    refine ih (i + 1) _ _ H_5 (hW.N (by omega)) (by show i + 1 + d = gG S 0; omega) (fun h9 q1 q2 => K h9 ?_ ((gFr.set h _ (by omega)).tr q2))
    rw [show gG (gsN S i 3 0) 0 = gG S 0 from rfl, g_clrN_s S (by omega)] at q1
    exact q1
set_option maxHeartbeats 4000000 in
set_option maxRecDepth 20000 in
theorem lp_ord2 {l : Launch} {G : pm_G} {fi : Bool} (hl : l.stackTraces = false) : ∀ (d pl : Nat) (S : gS) (h : pm_H), gH S h → gW S → gV S → pl + d = gG S 0 → pm_Px l G fi fi 0 0 M_Gr_orderNodes 28 [(1, .int (nI pl)), (0, .ref (0))] [] h (fun r => r.1 = .inl (some (.int (if (g_ordL (gG S 0) d pl S).1 = true then 1 else 0))) ∧ gH (g_ordL (gG S 0) d pl S).2 r.2 ∧ gFr h r.2) := by
  intro d
  induction d with
  | zero =>
    intro pl S h H hW hV hb
    obtain ⟨b1, b2, b3, b4, b5, b6⟩ := id hW
    refine px (fun _ => pm_iload_n (pc := 28) d_Gr_orderNodes_28 rfl) ?_
    refine px (fun _ => pm_aload_n (pc := 29) d_Gr_orderNodes_29 rfl) ?_
    refine px (fun _ => pm_getf fl_Gr_35 (pc := 30) d_Gr_orderNodes_30 H.1 rfl) ?_
    refine pxb (fun _ => pm_icmp_ge (pc := 33) (tgt := 71) d_Gr_orderNodes_33 (by decide)) (fun c_1 => ?_) (fun c_1 => absurd (by rw [show pl = gG S 0 by omega]; exact (nI_leI (a := gG S 0) (b := gG S 0) (by omega) (by omega)).mpr (Nat.le_refl _)) c_1)
    refine px (fun _ => pm_iconst (v := 1) (pc := 71) d_Gr_orderNodes_71 rfl) ?_
    exact pxr (pm_iret (pc := 72) d_Gr_orderNodes_72 rfl rfl) ⟨rfl, H, gFr.rf h⟩
  | succ d ih =>
    intro pl S h H hW hV hb
    obtain ⟨b1, b2, b3, b4, b5, b6⟩ := id hW
    have hpl : pl < 14 := by omega
    refine px (fun _ => pm_iload_n (pc := 28) d_Gr_orderNodes_28 rfl) ?_
    refine px (fun _ => pm_aload_n (pc := 29) d_Gr_orderNodes_29 rfl) ?_
    refine px (fun _ => pm_getf fl_Gr_35 (pc := 30) d_Gr_orderNodes_30 H.1 rfl) ?_
    refine pxb (fun _ => pm_icmp_ge (pc := 33) (tgt := 71) d_Gr_orderNodes_33 (by decide)) (fun c_1 => absurd c_1 (fun q => absurd ((nI_leI (a := gG S 0) (b := pl) (by omega) (by omega)).mp q) (by omega))) (fun c_1 => ?_)
    refine px (fun _ => pm_aload_n (pc := 36) d_Gr_orderNodes_36 rfl) ?_
    cases ho : g_least (g_canO S) 0 (gG S 0) with
    | none =>
      refine px (fun _ => k_Gr_orderNodes_37 (kc1 := 0) (ks1 := 0) (kc := 0) (ks := 0) (av := []) (st := []) H.1 ((by have k9 := c_least (l := l) (G := G) (fi := fi) hl H hW hV; rw [ho] at k9; exact k9)) rfl rfl (Nat.le_of_ble_eq_true rfl)) ?_
      refine px (fun _ => pm_istore_n (lv' := [(2, .int (-1)), (1, .int (nI pl)), (0, .ref (0))]) (pc := 40) d_Gr_orderNodes_40 (by decide) rfl) ?_
      refine px (fun _ => pm_iload_n (pc := 41) d_Gr_orderNodes_41 rfl) ?_
      refine px (fun _ => pm_iconst (v := -1) (pc := 42) d_Gr_orderNodes_42 rfl) ?_
      refine pxn (fun _ => pm_icmp_ne (pc := 43) (tgt := 48) d_Gr_orderNodes_43 (by decide)) (fun c_2 => absurd (by decide) c_2) (fun c_2 => ?_)
      refine px (fun _ => pm_iconst (v := 0) (pc := 46) d_Gr_orderNodes_46 rfl) ?_
      exact pxr (pm_iret (pc := 47) d_Gr_orderNodes_47 rfl rfl) ⟨by simp [g_ordL, ho], by simp only [g_ordL, ho]; exact H, gFr.rf h⟩
    | some nx =>
      have hnx : nx < 14 := by have := g_least_lt _ _ _ _ ho; omega
      refine px (fun _ => k_Gr_orderNodes_37 (kc1 := 0) (ks1 := 0) (kc := 0) (ks := 0) (av := []) (st := []) H.1 ((by have k9 := c_least (l := l) (G := G) (fi := fi) hl H hW hV; rw [ho] at k9; exact k9)) rfl rfl (Nat.le_of_ble_eq_true rfl)) ?_
      refine px (fun _ => pm_istore_n (lv' := [(2, .int (nI nx)), (1, .int (nI pl)), (0, .ref (0))]) (pc := 40) d_Gr_orderNodes_40 (by decide) rfl) ?_
      refine px (fun _ => pm_iload_n (pc := 41) d_Gr_orderNodes_41 rfl) ?_
      refine px (fun _ => pm_iconst (v := -1) (pc := 42) d_Gr_orderNodes_42 rfl) ?_
      refine pxn (fun _ => pm_icmp_ne (pc := 43) (tgt := 48) d_Gr_orderNodes_43 (by decide)) (fun c_3 => ?_) (fun c_3 => absurd c_3 (by intro q; have q2 := congrArg Int32.toInt q; rw [nI_toInt (by omega)] at q2; have q3 : ((-1 : Int32)).toInt = -1 := rfl; omega))
      refine px (fun _ => pm_aload_n (pc := 48) d_Gr_orderNodes_48 rfl) ?_
      refine px (fun _ => pm_getf fl_Gr_21 (pc := 49) d_Gr_orderNodes_49 H.1 rfl) ?_
      refine px (fun _ => pm_iload_n (pc := 52) d_Gr_orderNodes_52 rfl) ?_
      refine px (fun _ => pm_iload_n (pc := 53) d_Gr_orderNodes_53 rfl) ?_
      refine px (fun _ => pm_iast (j := pl) (pc := 54) d_Gr_orderNodes_54 H.2.2.2.1 (rfl) (hpl) (by decide)) ?_
      have H_4 : gH (gsO S pl nx) (h.set (3) (pm_I 14 (va_up (fun j => nI (gO S j)) (pl) (nI nx)))) := H.O (k := pl) (v := nx)
      refine px (fun _ => pm_aload_n (pc := 55) d_Gr_orderNodes_55 rfl) ?_
      refine px (fun _ => pm_getf fl_Gr_17 (pc := 56) d_Gr_orderNodes_56 H_4.1 rfl) ?_
      refine px (fun _ => pm_iload_n (pc := 59) d_Gr_orderNodes_59 rfl) ?_
      obtain ⟨f_5, hf_6, gf_7⟩ := id H_4.2.2.1
      refine px (fun _ => pm_aald (kd := 4) (Cn := "GraphRunner$Node") (j := nx) (pc := 60) d_Gr_orderNodes_60 (fun _ => rfl) hf_6 (rfl) (hnx) (by decide) (gf_7 nx hnx)) ?_
      refine px (fun _ => pm_iconst (v := 1) (pc := 61) d_Gr_orderNodes_61 rfl) ?_
      refine px (fun _ => pm_putfC (c' := pm_Ob 0 [.ref (68 + 2 * nx), .int (nI (gN (gsO S pl nx) nx 0)), .int (nI (gN (gsO S pl nx) nx 1)), .int (nI (gN (gsO S pl nx) nx 2)), .int (gQ (gsO S pl nx) nx 0), .int (gQ (gsO S pl nx) nx 1), .int (1), .int (nI (gN (gsO S pl nx) nx 4)), .int (nI (gN (gsO S pl nx) nx 5))]) fp_Gr_184 (pc := 62) d_Gr_orderNodes_62 (H_4.2.2.2.2.2.2.2 nx hnx).1 (Nat.le_of_ble_eq_true rfl) rfl rfl rfl) ?_
      have H_8 : gH (gsN (gsO S pl nx) nx 3 1) ((h.set (3) (pm_I 14 (va_up (fun j => nI (gO S j)) (pl) (nI nx)))).set (67 + 2 * nx) (pm_Ob 0 [.ref (68 + 2 * nx), .int (nI (gN (gsO S pl nx) nx 0)), .int (nI (gN (gsO S pl nx) nx 1)), .int (nI (gN (gsO S pl nx) nx 2)), .int (gQ (gsO S pl nx) nx 0), .int (gQ (gsO S pl nx) nx 1), .int (1), .int (nI (gN (gsO S pl nx) nx 4)), .int (nI (gN (gsO S pl nx) nx 5))])) := H_4.N3 (i := nx) (v := 1) hnx
      refine px (fun _ => pm_iinc (x := nI pl) (v := nI (pl + 1)) (lv' := [(1, .int (nI (pl + 1))), (2, .int (nI nx)), (0, .ref (0))]) (pc := 65) d_Gr_orderNodes_65 rfl (nI_1 _) (by decide) rfl) ?_
      refine px (fun _ => pm_goto (tgt := 28) (pc := 68) d_Gr_orderNodes_68 (by decide)) ?_
      refine pxd [0, 2] rfl ?_
      refine pxm (ih (pl + 1) _ _ H_8 (gW.N (gW.O hW hnx) (by omega)) (hV.O.N (by omega)) (by show pl + 1 + d = gG S 0; omega)) (fun r q => ?_)
      have e9 : g_ordL (gG S 0) (d + 1) pl S = g_ordL (gG S 0) d (pl + 1) (gsN (gsO S pl nx) nx 3 1) := by simp only [g_ordL, ho]
      rw [e9]
      exact ⟨q.1, q.2.1, ((gFr.set h _ (by omega)).tr (gFr.set _ _ (by omega))).tr q.2.2⟩
set_option maxHeartbeats 4000000 in
set_option maxRecDepth 20000 in
theorem c_orderNodes {l : Launch} {G : pm_G} {fi : Bool} {h : pm_H} {S : gS} (hl : l.stackTraces = false) (H : gH S h) (hW : gW S) (hV : gV S) : pm_Cn l G fi fi 0 0 M_Gr_orderNodes [.ref 0] h (fun r => r.1 = .inl (some (.int (if (g_ordL (gG S 0) (gG S 0) 0 (g_clrN S 3 0 (gG S 0))).1 = true then 1 else 0))) ∧ gH (g_ordL (gG S 0) (gG S 0) 0 (g_clrN S 3 0 (gG S 0))).2 r.2 ∧ gFr h r.2) := by
  refine pm_Cn.of hl (by decide) (Nat.le_of_ble_eq_true rfl) ?_
  refine px (fun _ => pm_iconst (v := 0) (pc := 0) d_Gr_orderNodes_0 rfl) ?_
  refine px (fun _ => pm_istore_n (lv' := [(1, .int (0)), (0, .ref (0))]) (pc := 1) d_Gr_orderNodes_1 (by decide) rfl) ?_
  refine lp_ord1 (gG S 0) 0 S h H hW (by omega) (fun h1 H1 F1 => ?_)
  refine px (fun _ => pm_iconst (v := 0) (pc := 26) d_Gr_orderNodes_26 rfl) ?_
  refine px (fun _ => pm_istore_n (lv' := [(1, .int (0)), (0, .ref (0))]) (pc := 27) d_Gr_orderNodes_27 (by decide) rfl) ?_
  exact pxm (lp_ord2 hl (gG S 0) 0 _ h1 H1 hW.clrN (hV.clrN (by omega)) (by show 0 + gG S 0 = gG S 0; omega)) (fun r q => ⟨q.1, q.2.1, F1.tr q.2.2⟩)
