/-! ===== the class: foldNodes ===== -/
/-- node n folded or not: a step of foldNodes -/
def g_fst (S : gS) (n : Nat) (S2 : gS) : Prop := (g_argC S n = true ∧ ∃ f e, g_end S n e ∧ (e = 0 → g_inv (g_En S n) (gT S (gN S n 2) 2) f (gT S (gN S n 2) 1) 0) ∧ S2 = gsN (gsC S (gN S n 2) f) n 4 (if e = 0 then 1 else 0)) ∨ (¬ g_argC S n = true ∧ S2 = gsN S n 4 0)
theorem g_end_le {S : gS} {n e : Nat} (h : g_end S n e) : e ≤ 2 := by
  rcases h with h | h | h
  · omega
  · omega
  · rw [h.2]; split <;> omega
set_option maxHeartbeats 4000000 in
set_option maxRecDepth 20000 in
theorem lp_fold {l : Launch} {G : pm_G} {fi : Bool} {nc : Nat} {Inv : Nat → gS → Prop} (hl : l.stackTraces = false) (hI0 : ∀ pl S, Inv pl S → gG S 0 = nc ∧ gW S) (hI : ∀ pl S, pl < nc → Inv pl S → gV S ∧ gU S ∧ gO S pl < nc ∧ (g_argC S (gO S pl) = true → g_pre S (gO S pl))) (hS : ∀ pl S S2, pl < nc → Inv pl S → g_fst S (gO S pl) S2 → Inv (pl + 1) S2) : ∀ (d pl : Nat) (S : gS) (h : pm_H), gH S h → Inv pl S → pl + d = nc → pm_Px l G fi fi 0 0 M_Gr_foldNodes 2 [(1, .int (nI pl)), (0, .ref (0))] [] h (fun r => r.1 = .inl none ∧ ∃ S1, Inv nc S1 ∧ gH S1 r.2 ∧ gFr h r.2) := by
  intro d
  induction d with
  | zero =>
    intro pl S h H iv hb
    obtain ⟨eg, hW⟩ := hI0 pl S iv
    have b1 := hW.1
    refine px (fun _ => pm_iload_n (pc := 2) d_Gr_foldNodes_2 rfl) ?_
    refine px (fun _ => pm_aload_n (pc := 3) d_Gr_foldNodes_3 rfl) ?_
    refine px (fun _ => pm_getf fl_Gr_35 (pc := 4) d_Gr_foldNodes_4 H.1 rfl) ?_
    refine pxb (fun _ => pm_icmp_ge (pc := 7) (tgt := 53) d_Gr_foldNodes_7 (by decide)) (fun c_1 => ?_) (fun c_1 => absurd (by rw [show pl = gG S 0 by omega]; exact (nI_leI (a := gG S 0) (b := gG S 0) (by omega) (by omega)).mpr (Nat.le_refl _)) c_1)
    exact pxr (pm_vret (pc := 53) d_Gr_foldNodes_53 rfl) ⟨rfl, S, by rw [← hb]; exact iv, H, gFr.rf h⟩
  | succ d ih =>
    intro pl S h H iv hb
    obtain ⟨eg, hW⟩ := hI0 pl S iv
    have b1 := hW.1
    obtain ⟨hV, hU, hx, hpre⟩ := hI pl S (by omega) iv
    have hpl : pl < 14 := by omega
    have hs9 := hS pl S
    obtain ⟨n, en⟩ : ∃ n, n = gO S pl := ⟨_, rfl⟩
    rw [← en] at hx hpre hs9
    have hn : n < 14 := by omega
    have hm : n < gG S 0 := by omega
    have ho : gN S n 2 < 20 := (hW.2.2.2.2.2 n hn).2.2.1
    refine px (fun _ => pm_iload_n (pc := 2) d_Gr_foldNodes_2 rfl) ?_
    refine px (fun _ => pm_aload_n (pc := 3) d_Gr_foldNodes_3 rfl) ?_
    refine px (fun _ => pm_getf fl_Gr_35 (pc := 4) d_Gr_foldNodes_4 H.1 rfl) ?_
    refine pxb (fun _ => pm_icmp_ge (pc := 7) (tgt := 53) d_Gr_foldNodes_7 (by decide)) (fun c_1 => absurd c_1 (fun q => absurd ((nI_leI (a := gG S 0) (b := pl) (by omega) (by omega)).mp q) (by omega))) (fun c_1 => ?_)
    refine px (fun _ => pm_aload_n (pc := 10) d_Gr_foldNodes_10 rfl) ?_
    refine px (fun _ => pm_getf fl_Gr_17 (pc := 11) d_Gr_foldNodes_11 H.1 rfl) ?_
    refine px (fun _ => pm_aload_n (pc := 14) d_Gr_foldNodes_14 rfl) ?_
    refine px (fun _ => pm_getf fl_Gr_21 (pc := 15) d_Gr_foldNodes_15 H.1 rfl) ?_
    refine px (fun _ => pm_iload_n (pc := 18) d_Gr_foldNodes_18 rfl) ?_
    refine px (fun _ => pm_iald (j := pl) (pc := 19) d_Gr_foldNodes_19 H.2.2.2.1 (rfl) (hpl) (by decide)) ?_
    rw [← en]
    obtain ⟨f_2, hf_3, gf_4⟩ := id H.2.2.1
    refine px (fun _ => pm_aald (kd := 4) (Cn := "GraphRunner$Node") (j := n) (pc := 20) d_Gr_foldNodes_20 (fun _ => rfl) hf_3 (rfl) (hn) (by decide) (gf_4 n hn)) ?_
    refine px (fun _ => pm_astore_n (lv' := [(2, .ref (67 + 2 * n)), (1, .int (nI pl)), (0, .ref (0))]) (pc := 21) d_Gr_foldNodes_21 (by decide) rfl) ?_
    refine px (fun _ => pm_aload_n (pc := 22) d_Gr_foldNodes_22 rfl) ?_
    refine px (fun _ => pm_aload_n (pc := 23) d_Gr_foldNodes_23 rfl) ?_
    refine px (fun _ => pm_aload_n (pc := 24) d_Gr_foldNodes_24 rfl) ?_
    refine px (fun _ => k_Gr_foldNodes_25 (kc1 := 0) (ks1 := 0) (kc := 0) (ks := 0) (av := [.ref (67 + 2 * n)]) (st := [.ref (67 + 2 * n)]) H.1 (c_argsC hl H hW hV hn hm) rfl rfl (Nat.le_of_ble_eq_true rfl)) ?_
    refine pxb (fun _ => pm_if_eq (pc := 28) (tgt := 43) d_Gr_foldNodes_28 (by decide)) (fun c_5 => ?_) (fun c_5 => ?_)
    · have n_c_5 : ¬ (g_argC S n = true) := g_if0.mp c_5
      refine px (fun _ => pm_iconst (v := 0) (pc := 43) d_Gr_foldNodes_43 rfl) ?_
      refine px (fun _ => pm_putfC (c' := pm_Ob 0 [.ref (68 + 2 * n), .int (nI (gN S n 0)), .int (nI (gN S n 1)), .int (nI (gN S n 2)), .int (gQ S n 0), .int (gQ S n 1), .int (nI (gN S n 3)), .int (0), .int (nI (gN S n 5))]) fp_Gr_187 (pc := 44) d_Gr_foldNodes_44 (H.2.2.2.2.2.2.2 n hn).1 (Nat.le_of_ble_eq_true rfl) rfl rfl rfl) ?_
      have H_6 : gH (gsN S n 4 0) (h.set (67 + 2 * n) (pm_Ob 0 [.ref (68 + 2 * n), .int (nI (gN S n 0)), .int (nI (gN S n 1)), .int (nI (gN S n 2)), .int (gQ S n 0), .int (gQ S n 1), .int (nI (gN S n 3)), .int (0), .int (nI (gN S n 5))])) := H.N4 (i := n) (v := 0) hn
      refine px (fun _ => pm_iinc (x := nI pl) (v := nI (pl + 1)) (lv' := [(1, .int (nI (pl + 1))), (2, .ref (67 + 2 * n)), (0, .ref (0))]) (pc := 47) d_Gr_foldNodes_47 rfl (nI_1 _) (by decide) rfl) ?_
      refine px (fun _ => pm_goto (tgt := 2) (pc := 50) d_Gr_foldNodes_50 (by decide)) ?_
      refine pxd [0, 2] rfl ?_
      exact pxm (ih (pl + 1) _ _ H_6 (hs9 _ (by omega) iv (Or.inr ⟨by assumption, rfl⟩)) (by omega)) (fun r q => ⟨q.1, by obtain ⟨-, S1, z1, z2, z3⟩ := q; exact ⟨S1, z1, z2, ((gFr.set _ _ (by omega))).tr z3⟩⟩)
    · have n_c_5 : g_argC S n = true := Decidable.byContradiction fun q => c_5 (g_if0.mpr q)
      refine px (fun _ => pm_aload_n (pc := 31) d_Gr_foldNodes_31 rfl) ?_
      refine px (fun _ => pm_aload_n (pc := 32) d_Gr_foldNodes_32 rfl) ?_
      obtain ⟨⟨o7, h7⟩, ⟨f7, e7, H7, F7, r7, ge, gi⟩, en7⟩ := c_workOut (l := l) (G := G) (fi := fi) hl H hW hV hU hm (hpre (by assumption))
      dsimp only at H7 F7 r7
      subst r7
      have le7 := g_end_le ge
      refine px (fun _ => k_Gr_foldNodes_33 (kc1 := 0) (ks1 := 0) (kc := 0) (ks := 0) (av := [.ref (67 + 2 * n)]) (st := [.ref (67 + 2 * n)]) H.1 (en7) rfl rfl (Nat.le_of_ble_eq_true rfl)) ?_
      refine pxn (fun _ => pm_if_ne (pc := 36) (tgt := 43) d_Gr_foldNodes_36 (by decide)) (fun c_7 => ?_) (fun c_7 => ?_)
      · have n_c_7 : ¬ (e7 = 0) := fun q => c_7 ((nI_eq (a := e7) (b := 0) (by omega) (by omega)).mpr q)
        refine px (fun _ => pm_iconst (v := 0) (pc := 43) d_Gr_foldNodes_43 rfl) ?_
        refine px (fun _ => pm_putfC (c' := pm_Ob 0 [.ref (68 + 2 * n), .int (nI (gN (gsC S (gN S n 2) f7) n 0)), .int (nI (gN (gsC S (gN S n 2) f7) n 1)), .int (nI (gN (gsC S (gN S n 2) f7) n 2)), .int (gQ (gsC S (gN S n 2) f7) n 0), .int (gQ (gsC S (gN S n 2) f7) n 1), .int (nI (gN (gsC S (gN S n 2) f7) n 3)), .int (0), .int (nI (gN (gsC S (gN S n 2) f7) n 5))]) fp_Gr_187 (pc := 44) d_Gr_foldNodes_44 (H7.2.2.2.2.2.2.2 n hn).1 (Nat.le_of_ble_eq_true rfl) rfl rfl rfl) ?_
        have H_8 : gH (gsN (gsC S (gN S n 2) f7) n 4 0) (h7.set (67 + 2 * n) (pm_Ob 0 [.ref (68 + 2 * n), .int (nI (gN (gsC S (gN S n 2) f7) n 0)), .int (nI (gN (gsC S (gN S n 2) f7) n 1)), .int (nI (gN (gsC S (gN S n 2) f7) n 2)), .int (gQ (gsC S (gN S n 2) f7) n 0), .int (gQ (gsC S (gN S n 2) f7) n 1), .int (nI (gN (gsC S (gN S n 2) f7) n 3)), .int (0), .int (nI (gN (gsC S (gN S n 2) f7) n 5))])) := H7.N4 (i := n) (v := 0) hn
        refine px (fun _ => pm_iinc (x := nI pl) (v := nI (pl + 1)) (lv' := [(1, .int (nI (pl + 1))), (2, .ref (67 + 2 * n)), (0, .ref (0))]) (pc := 47) d_Gr_foldNodes_47 rfl (nI_1 _) (by decide) rfl) ?_
        refine px (fun _ => pm_goto (tgt := 2) (pc := 50) d_Gr_foldNodes_50 (by decide)) ?_
        refine pxd [0, 2] rfl ?_
        exact pxm (ih (pl + 1) _ _ H_8 (hs9 _ (by omega) iv (Or.inl ⟨by assumption, f7, e7, ge, gi, by rw [if_neg (by assumption)]⟩)) (by omega)) (fun r q => ⟨q.1, by obtain ⟨-, S1, z1, z2, z3⟩ := q; exact ⟨S1, z1, z2, ((F7).tr ((gFr.set _ _ (by omega)))).tr z3⟩⟩)
      · have n_c_7 : e7 = 0 := (nI_eq (a := e7) (b := 0) (by omega) (by omega)).mp c_7
        refine px (fun _ => pm_iconst (v := 1) (pc := 39) d_Gr_foldNodes_39 rfl) ?_
        refine px (fun _ => pm_goto (tgt := 44) (pc := 40) d_Gr_foldNodes_40 (by decide)) ?_
        refine px (fun _ => pm_putfC (c' := pm_Ob 0 [.ref (68 + 2 * n), .int (nI (gN (gsC S (gN S n 2) f7) n 0)), .int (nI (gN (gsC S (gN S n 2) f7) n 1)), .int (nI (gN (gsC S (gN S n 2) f7) n 2)), .int (gQ (gsC S (gN S n 2) f7) n 0), .int (gQ (gsC S (gN S n 2) f7) n 1), .int (nI (gN (gsC S (gN S n 2) f7) n 3)), .int (1), .int (nI (gN (gsC S (gN S n 2) f7) n 5))]) fp_Gr_187 (pc := 44) d_Gr_foldNodes_44 (H7.2.2.2.2.2.2.2 n hn).1 (Nat.le_of_ble_eq_true rfl) rfl rfl rfl) ?_
        have H_9 : gH (gsN (gsC S (gN S n 2) f7) n 4 1) (h7.set (67 + 2 * n) (pm_Ob 0 [.ref (68 + 2 * n), .int (nI (gN (gsC S (gN S n 2) f7) n 0)), .int (nI (gN (gsC S (gN S n 2) f7) n 1)), .int (nI (gN (gsC S (gN S n 2) f7) n 2)), .int (gQ (gsC S (gN S n 2) f7) n 0), .int (gQ (gsC S (gN S n 2) f7) n 1), .int (nI (gN (gsC S (gN S n 2) f7) n 3)), .int (1), .int (nI (gN (gsC S (gN S n 2) f7) n 5))])) := H7.N4 (i := n) (v := 1) hn
        refine px (fun _ => pm_iinc (x := nI pl) (v := nI (pl + 1)) (lv' := [(1, .int (nI (pl + 1))), (2, .ref (67 + 2 * n)), (0, .ref (0))]) (pc := 47) d_Gr_foldNodes_47 rfl (nI_1 _) (by decide) rfl) ?_
        refine px (fun _ => pm_goto (tgt := 2) (pc := 50) d_Gr_foldNodes_50 (by decide)) ?_
        refine pxd [0, 2] rfl ?_
        exact pxm (ih (pl + 1) _ _ H_9 (hs9 _ (by omega) iv (Or.inl ⟨by assumption, f7, e7, ge, gi, by rw [if_pos (by assumption)]⟩)) (by omega)) (fun r q => ⟨q.1, by obtain ⟨-, S1, z1, z2, z3⟩ := q; exact ⟨S1, z1, z2, ((F7).tr ((gFr.set _ _ (by omega)))).tr z3⟩⟩)
set_option maxHeartbeats 4000000 in
set_option maxRecDepth 20000 in
theorem c_fold {l : Launch} {G : pm_G} {fi : Bool} {h : pm_H} {S : gS} {nc : Nat} {Inv : Nat → gS → Prop} (hl : l.stackTraces = false) (H : gH S h) (hI0 : ∀ pl S, Inv pl S → gG S 0 = nc ∧ gW S) (hI : ∀ pl S, pl < nc → Inv pl S → gV S ∧ gU S ∧ gO S pl < nc ∧ (g_argC S (gO S pl) = true → g_pre S (gO S pl))) (hS : ∀ pl S S2, pl < nc → Inv pl S → g_fst S (gO S pl) S2 → Inv (pl + 1) S2) (iv : Inv 0 S) : pm_Cn l G fi fi 0 0 M_Gr_foldNodes [.ref 0] h (fun r => r.1 = .inl none ∧ ∃ S1, Inv nc S1 ∧ gH S1 r.2 ∧ gFr h r.2) := by
  refine pm_Cn.of hl (by decide) (Nat.le_of_ble_eq_true rfl) ?_
  refine px (fun _ => pm_iconst (v := 0) (pc := 0) d_Gr_foldNodes_0 rfl) ?_
  refine px (fun _ => pm_istore_n (lv' := [(1, .int (0)), (0, .ref (0))]) (pc := 1) d_Gr_foldNodes_1 (by decide) rfl) ?_
  exact lp_fold hl hI0 hI hS nc 0 S h H iv (by omega)
