/-! ===== the class: learn, firstNeeded ===== -/
abbrev g_thP (S : gS) (j : Nat) : Prop := (gK S j 0 = 1 ∨ gK S j 0 = 2) ∨ gK S j 0 = 3 ∧ (gN S (gK S j 1) 5 = 1 ∨ gN S (gK S j 1) 4 = 1)
def g_isT (S : gS) (j : Nat) : Bool := decide (g_thP S j)
theorem g_isT_y {S : gS} {j : Nat} (h : g_thP S j) : g_isT S j = true := decide_eq_true h
theorem g_isT_n {S : gS} {j : Nat} (h : ¬ g_thP S j) : ¬ g_isT S j = true := fun q => h (of_decide_eq_true q)
/-- the first argument from k on that is not there -/
def g_fna (S : gS) (n : Nat) : Nat → Nat → Option Nat
  | _, 0 => none
  | k, d + 1 => if g_isT S (g_as S n k) = true then g_fna S n (k + 1) d else some (g_as S n k)
def g_fnc (S : gS) (n : Nat) : Option Nat := if g_isT S (g_as S n 2) = true then (if g_isT S (g_as S n (if fEq (gC S (g_as S n 2) (0 * 4 + 0)) FP.dconst0 then 1 else 0)) = true then none else some (g_as S n (if fEq (gC S (g_as S n 2) (0 * 4 + 0)) FP.dconst0 then 1 else 0))) else some (g_as S n 2)
def g_fn1 (S : gS) (n : Nat) : Option Nat := if gN S n 1 = 17 then g_fnc S n else g_fna S n 0 (gN S n 0)
def g_oi : Option Nat → Int32
  | none => -1
  | some s => nI s
/-- what learn makes of the state -/
def g_lrn (S : gS) (n e : Nat) (f : Nat → UInt64) : gS := if e = 0 then gsG (gsN (gsC S (gN S n 2) f) n 5 1) 2 (gG S 2 + 1) else gsG (gsC S (gN S n 2) f) 3 (gG S 3 + 1)
abbrev g_PN (S : gS) (n : Nat) (h : pm_H) : pm_O × pm_H → Prop := fun r => ∃ f e, gH (g_lrn S n e f) r.2 ∧ gFr h r.2 ∧ r.1 = .inl (some (.int (nI e))) ∧ g_end S n e ∧ (e = 0 → g_inv (g_En S n) (gT S (gN S n 2) 2) f (gT S (gN S n 2) 1) 0)
set_option maxHeartbeats 4000000 in
set_option maxRecDepth 20000 in
theorem c_learn {l : Launch} {G : pm_G} {fi : Bool} {h : pm_H} {S : gS} {n : Nat} (hl : l.stackTraces = false) (H : gH S h) (hW : gW S) (hV : gV S) (hU : gU S) (x1 : n < gG S 0) (hP : g_pre S n) : pm_Cn l G fi fi 0 0 M_Gr_learn [.ref (0), .ref (67 + 2 * n)] h (g_PN S n h) := by
  refine pm_Cn.of hl (by decide) (Nat.le_of_ble_eq_true rfl) ?_
  have b1 := hW.1
  have hn : n < 14 := by omega
  refine px (fun _ => pm_aload_n (pc := 0) d_Gr_learn_0 rfl) ?_
  refine px (fun _ => pm_aload_n (pc := 1) d_Gr_learn_1 rfl) ?_
  obtain ⟨⟨o7, h7⟩, ⟨f7, e7, H7, F7, r7, ge, gi⟩, en7⟩ := c_workOut (l := l) (G := G) (fi := fi) hl H hW hV hU x1 hP
  dsimp only at H7 F7 r7
  subst r7
  have le7 := g_end_le ge
  refine px (fun _ => k_Gr_learn_2 (kc1 := 0) (ks1 := 0) (kc := 0) (ks := 0) (av := [.ref (67 + 2 * n)]) (st := []) H.1 (en7) rfl rfl (Nat.le_of_ble_eq_true rfl)) ?_
  refine px (fun _ => pm_istore_n (lv' := [(2, .int (nI e7)), (0, .ref (0)), (1, .ref (67 + 2 * n))]) (pc := 5) d_Gr_learn_5 (by decide) rfl) ?_
  refine px (fun _ => pm_iload_n (pc := 6) d_Gr_learn_6 rfl) ?_
  refine pxn (fun _ => pm_if_ne (pc := 7) (tgt := 28) d_Gr_learn_7 (by decide)) (fun c_1 => ?_) (fun c_1 => ?_)
  · have n_c_1 : ¬ (e7 = 0) := fun q => c_1 ((nI_eq (a := e7) (b := 0) (by omega) (by omega)).mpr q)
    refine px (fun _ => pm_aload_n (pc := 28) d_Gr_learn_28 rfl) ?_
    refine px (fun _ => pm_dup (pc := 29) d_Gr_learn_29 rfl) ?_
    refine px (fun _ => pm_getf fl_Gr_46 (pc := 30) d_Gr_learn_30 H7.1 rfl) ?_
    refine px (fun _ => pm_iconst (v := 1) (pc := 33) d_Gr_learn_33 rfl) ?_
    refine px (fun _ => pm_iaddN (a := (gG (gsC S (gN S n 2) f7) 3)) (b := 1) (pc := 34) d_Gr_learn_34) ?_
    refine px (fun _ => pm_putfC (c' := pm_Ob 3 [.ref (1), .ref (2), .ref (3), .ref (4), .ref (5), .int (nI (gG (gsC S (gN S n 2) f7) 0)), .int (nI (gG (gsC S (gN S n 2) f7) 1)), .int (nI (gG (gsC S (gN S n 2) f7) 2)), .int (nI ((gG (gsC S (gN S n 2) f7) 3) + 1))]) fp_Gr_46 (pc := 35) d_Gr_learn_35 H7.1 (Nat.le_of_ble_eq_true rfl) rfl rfl rfl) ?_
    have H_2 : gH (gsG (gsC S (gN S n 2) f7) 3 ((gG (gsC S (gN S n 2) f7) 3) + 1)) (h7.set (0) (pm_Ob 3 [.ref (1), .ref (2), .ref (3), .ref (4), .ref (5), .int (nI (gG (gsC S (gN S n 2) f7) 0)), .int (nI (gG (gsC S (gN S n 2) f7) 1)), .int (nI (gG (gsC S (gN S n 2) f7) 2)), .int (nI ((gG (gsC S (gN S n 2) f7) 3) + 1))])) := H7.G3 (v := ((gG (gsC S (gN S n 2) f7) 3) + 1))
    refine px (fun _ => pm_iload_n (pc := 38) d_Gr_learn_38 rfl) ?_
    exact pxr (pm_iret (pc := 39) d_Gr_learn_39 rfl rfl) ⟨f7, e7, by simp only [g_lrn]; rw [if_neg (by assumption)]; exact H_2, (F7).tr ((gFr.set _ _ (by omega))), rfl, ge, gi⟩
  · have n_c_1 : e7 = 0 := (nI_eq (a := e7) (b := 0) (by omega) (by omega)).mp c_1
    refine px (fun _ => pm_aload_n (pc := 10) d_Gr_learn_10 rfl) ?_
    refine px (fun _ => pm_iconst (v := 1) (pc := 11) d_Gr_learn_11 rfl) ?_
    refine px (fun _ => pm_putfC (c' := pm_Ob 0 [.ref (68 + 2 * n), .int (nI (gN (gsC S (gN S n 2) f7) n 0)), .int (nI (gN (gsC S (gN S n 2) f7) n 1)), .int (nI (gN (gsC S (gN S n 2) f7) n 2)), .int (gQ (gsC S (gN S n 2) f7) n 0), .int (gQ (gsC S (gN S n 2) f7) n 1), .int (nI (gN (gsC S (gN S n 2) f7) n 3)), .int (nI (gN (gsC S (gN S n 2) f7) n 4)), .int (1)]) fp_Gr_193 (pc := 12) d_Gr_learn_12 (H7.2.2.2.2.2.2.2 n hn).1 (Nat.le_of_ble_eq_true rfl) rfl rfl rfl) ?_
    have H_3 : gH (gsN (gsC S (gN S n 2) f7) n 5 1) (h7.set (67 + 2 * n) (pm_Ob 0 [.ref (68 + 2 * n), .int (nI (gN (gsC S (gN S n 2) f7) n 0)), .int (nI (gN (gsC S (gN S n 2) f7) n 1)), .int (nI (gN (gsC S (gN S n 2) f7) n 2)), .int (gQ (gsC S (gN S n 2) f7) n 0), .int (gQ (gsC S (gN S n 2) f7) n 1), .int (nI (gN (gsC S (gN S n 2) f7) n 3)), .int (nI (gN (gsC S (gN S n 2) f7) n 4)), .int (1)])) := H7.N5 (i := n) (v := 1) hn
    refine px (fun _ => pm_aload_n (pc := 15) d_Gr_learn_15 rfl) ?_
    refine px (fun _ => pm_dup (pc := 16) d_Gr_learn_16 rfl) ?_
    refine px (fun _ => pm_getf fl_Gr_43 (pc := 17) d_Gr_learn_17 H_3.1 rfl) ?_
    refine px (fun _ => pm_iconst (v := 1) (pc := 20) d_Gr_learn_20 rfl) ?_
    refine px (fun _ => pm_iaddN (a := (gG (gsN (gsC S (gN S n 2) f7) n 5 1) 2)) (b := 1) (pc := 21) d_Gr_learn_21) ?_
    refine px (fun _ => pm_putfC (c' := pm_Ob 3 [.ref (1), .ref (2), .ref (3), .ref (4), .ref (5), .int (nI (gG (gsN (gsC S (gN S n 2) f7) n 5 1) 0)), .int (nI (gG (gsN (gsC S (gN S n 2) f7) n 5 1) 1)), .int (nI ((gG (gsN (gsC S (gN S n 2) f7) n 5 1) 2) + 1)), .int (nI (gG (gsN (gsC S (gN S n 2) f7) n 5 1) 3))]) fp_Gr_43 (pc := 22) d_Gr_learn_22 H_3.1 (Nat.le_of_ble_eq_true rfl) rfl rfl rfl) ?_
    have H_4 : gH (gsG (gsN (gsC S (gN S n 2) f7) n 5 1) 2 ((gG (gsN (gsC S (gN S n 2) f7) n 5 1) 2) + 1)) ((h7.set (67 + 2 * n) (pm_Ob 0 [.ref (68 + 2 * n), .int (nI (gN (gsC S (gN S n 2) f7) n 0)), .int (nI (gN (gsC S (gN S n 2) f7) n 1)), .int (nI (gN (gsC S (gN S n 2) f7) n 2)), .int (gQ (gsC S (gN S n 2) f7) n 0), .int (gQ (gsC S (gN S n 2) f7) n 1), .int (nI (gN (gsC S (gN S n 2) f7) n 3)), .int (nI (gN (gsC S (gN S n 2) f7) n 4)), .int (1)])).set (0) (pm_Ob 3 [.ref (1), .ref (2), .ref (3), .ref (4), .ref (5), .int (nI (gG (gsN (gsC S (gN S n 2) f7) n 5 1) 0)), .int (nI (gG (gsN (gsC S (gN S n 2) f7) n 5 1) 1)), .int (nI ((gG (gsN (gsC S (gN S n 2) f7) n 5 1) 2) + 1)), .int (nI (gG (gsN (gsC S (gN S n 2) f7) n 5 1) 3))])) := H_3.G2 (v := ((gG (gsN (gsC S (gN S n 2) f7) n 5 1) 2) + 1))
    refine px (fun _ => pm_goto (tgt := 38) (pc := 25) d_Gr_learn_25 (by decide)) ?_
    refine px (fun _ => pm_iload_n (pc := 38) d_Gr_learn_38 rfl) ?_
    exact pxr (pm_iret (pc := 39) d_Gr_learn_39 rfl rfl) ⟨f7, e7, by simp only [g_lrn]; rw [if_pos (by assumption)]; exact H_4, (F7).tr (((gFr.set _ _ (by omega))).tr ((gFr.set _ _ (by omega)))), rfl, ge, gi⟩
set_option maxHeartbeats 4000000 in
set_option maxRecDepth 20000 in
theorem lp_fna {l : Launch} {G : pm_G} {fi : Bool} {S : gS} {h : pm_H} {n : Nat} (hl : l.stackTraces = false) (H : gH S h) (hW : gW S) (hV : gV S) (hn : n < 14) (hm : n < gG S 0) : ∀ (d k : Nat), k + d = gN S n 0 → pm_Px l G fi fi 0 0 M_Gr_firstNeeded 17 [(2, .int (nI k)), (0, .ref (0)), (1, .ref (67 + 2 * n))] [] h (fun r => r = (.inl (some (.int (g_oi (g_fna S n k d)))), h)) := by
  have bn := hW.2.2.2.2.2 n hn
  intro d
  induction d with
  | zero =>
    intro k hb
    refine px (fun _ => pm_iload_n (pc := 17) d_Gr_firstNeeded_17 rfl) ?_
    refine px (fun _ => pm_aload_n (pc := 18) d_Gr_firstNeeded_18 rfl) ?_
    refine px (fun _ => pm_getf fl_Gr_203 (pc := 19) d_Gr_firstNeeded_19 (H.2.2.2.2.2.2.2 n hn).1 rfl) ?_
    refine pxb (fun _ => pm_icmp_ge (pc := 22) (tgt := 51) d_Gr_firstNeeded_22 (by decide)) (fun c_1 => ?_) (fun c_1 => absurd (by rw [show k = gN S n 0 by omega]; exact (nI_leI (a := gN S n 0) (b := gN S n 0) (by omega) (by omega)).mpr (Nat.le_refl _)) c_1)
    refine px (fun _ => pm_iconst (v := -1) (pc := 51) d_Gr_firstNeeded_51 rfl) ?_
    exact pxr (pm_iret (pc := 52) d_Gr_firstNeeded_52 rfl rfl) rfl
  | succ d ih =>
    intro k hb
    have av := hV n hm k (by omega)
    have hk3 : k < 3 := by omega
    refine px (fun _ => pm_iload_n (pc := 17) d_Gr_firstNeeded_17 rfl) ?_
    refine px (fun _ => pm_aload_n (pc := 18) d_Gr_firstNeeded_18 rfl) ?_
    refine px (fun _ => pm_getf fl_Gr_203 (pc := 19) d_Gr_firstNeeded_19 (H.2.2.2.2.2.2.2 n hn).1 rfl) ?_
    refine pxb (fun _ => pm_icmp_ge (pc := 22) (tgt := 51) d_Gr_firstNeeded_22 (by decide)) (fun c_1 => absurd c_1 (fun q => absurd ((nI_leI (a := gN S n 0) (b := k) (by omega) (by omega)).mp q) (by omega))) (fun c_1 => ?_)
    refine px (fun _ => pm_aload_n (pc := 25) d_Gr_firstNeeded_25 rfl) ?_
    refine px (fun _ => pm_aload_n (pc := 26) d_Gr_firstNeeded_26 rfl) ?_
    refine px (fun _ => pm_getf fl_Gr_206 (pc := 27) d_Gr_firstNeeded_27 (H.2.2.2.2.2.2.2 n hn).1 rfl) ?_
    refine px (fun _ => pm_iload_n (pc := 30) d_Gr_firstNeeded_30 rfl) ?_
    refine px (fun _ => pm_iald (j := k) (pc := 31) d_Gr_firstNeeded_31 (H.2.2.2.2.2.2.2 n hn).2 (rfl) (hk3) (by decide)) ?_
    rw [av.1]
    refine px (fun _ => k_Gr_firstNeeded_32 (kc1 := 0) (ks1 := 0) (kc := 0) (ks := 0) (av := [.int (nI (g_as S n k))]) (st := []) H.1 (c_isThere hl H hW av.2) rfl rfl (Nat.le_of_ble_eq_true rfl)) ?_
    refine pxn (fun _ => pm_if_ne (pc := 35) (tgt := 45) d_Gr_firstNeeded_35 (by decide)) (fun c_2 => ?_) (fun c_2 => ?_)
    · have n_c_2 : g_thP S (g_as S n k) := Decidable.byContradiction fun q => c_2 (g_if0.mpr q)
      refine px (fun _ => pm_iinc (x := nI k) (v := nI (k + 1)) (lv' := [(2, .int (nI (k + 1))), (0, .ref (0)), (1, .ref (67 + 2 * n))]) (pc := 45) d_Gr_firstNeeded_45 rfl (nI_1 _) (by decide) rfl) ?_
      refine px (fun _ => pm_goto (tgt := 17) (pc := 48) d_Gr_firstNeeded_48 (by decide)) ?_
      have e9 : g_fna S n k (d + 1) = g_fna S n (k + 1) d := by simp only [g_fna]; rw [if_pos (g_isT_y (by assumption : g_thP S (g_as S n k)))]
      rw [e9]
      exact ih (k + 1) (by omega)
    · have n_c_2 : ¬ (g_thP S (g_as S n k)) := g_if0.mp c_2
      refine px (fun _ => pm_aload_n (pc := 38) d_Gr_firstNeeded_38 rfl) ?_
      refine px (fun _ => pm_getf fl_Gr_206 (pc := 39) d_Gr_firstNeeded_39 (H.2.2.2.2.2.2.2 n hn).1 rfl) ?_
      refine px (fun _ => pm_iload_n (pc := 42) d_Gr_firstNeeded_42 rfl) ?_
      refine px (fun _ => pm_iald (j := k) (pc := 43) d_Gr_firstNeeded_43 (H.2.2.2.2.2.2.2 n hn).2 (rfl) (hk3) (by decide)) ?_
      exact pxr (pm_iret (pc := 44) d_Gr_firstNeeded_44 rfl rfl) (by simp only [g_fna]; rw [if_neg (g_isT_n (by assumption : ¬ g_thP S (g_as S n k)))]; rw [av.1]; rfl)
set_option maxHeartbeats 4000000 in
set_option maxRecDepth 20000 in
theorem c_fnc {l : Launch} {G : pm_G} {fi : Bool} {S : gS} {h : pm_H} {n : Nat} (hl : l.stackTraces = false) (H : gH S h) (hW : gW S) (hV : gV S) (hn : n < 14) (hm : n < gG S 0) (h3 : gN S n 0 = 3) : pm_En l G fi fi 0 0 M_Gr_firstNeededByChoice [.ref (0), .ref (67 + 2 * n)] h (.inl (some (.int (g_oi (g_fnc S n)))), h) := by
  refine pm_Cn.eq (pm_Cn.of hl (by decide) (Nat.le_of_ble_eq_true rfl) ?_)
  have bn := hW.2.2.2.2.2 n hn
  have a0 := hV n hm 0 (by omega)
  have a1 := hV n hm 1 (by omega)
  have a2 := hV n hm 2 (by omega)
  refine px (fun _ => pm_aload_n (pc := 0) d_Gr_firstNeededByChoice_0 rfl) ?_
  refine px (fun _ => pm_getf fl_Gr_206 (pc := 1) d_Gr_firstNeededByChoice_1 (H.2.2.2.2.2.2.2 n hn).1 rfl) ?_
  refine px (fun _ => pm_iconst (v := 2) (pc := 4) d_Gr_firstNeededByChoice_4 rfl) ?_
  refine px (fun _ => pm_iald (j := 2) (pc := 5) d_Gr_firstNeededByChoice_5 (H.2.2.2.2.2.2.2 n hn).2 (rfl) (by decide) (by decide)) ?_
  rw [a2.1]
  refine px (fun _ => pm_istore_n (lv' := [(2, .int (nI (g_as S n 2))), (0, .ref (0)), (1, .ref (67 + 2 * n))]) (pc := 6) d_Gr_firstNeededByChoice_6 (by decide) rfl) ?_
  refine px (fun _ => pm_aload_n (pc := 7) d_Gr_firstNeededByChoice_7 rfl) ?_
  refine px (fun _ => pm_iload_n (pc := 8) d_Gr_firstNeededByChoice_8 rfl) ?_
  refine px (fun _ => k_Gr_firstNeededByChoice_9 (kc1 := 0) (ks1 := 0) (kc := 0) (ks := 0) (av := [.int (nI (g_as S n 2))]) (st := []) H.1 (c_isThere hl H hW a2.2) rfl rfl (Nat.le_of_ble_eq_true rfl)) ?_
  refine pxn (fun _ => pm_if_ne (pc := 12) (tgt := 17) d_Gr_firstNeededByChoice_12 (by decide)) (fun c_1 => ?_) (fun c_1 => ?_)
  · have n_c_1 : g_thP S (g_as S n 2) := Decidable.byContradiction fun q => c_1 (g_if0.mpr q)
    refine px (fun _ => pm_aload_n (pc := 17) d_Gr_firstNeededByChoice_17 rfl) ?_
    refine px (fun _ => pm_getf fl_Gr_206 (pc := 18) d_Gr_firstNeededByChoice_18 (H.2.2.2.2.2.2.2 n hn).1 rfl) ?_
    refine px (fun _ => pm_aload_n (pc := 21) d_Gr_firstNeededByChoice_21 rfl) ?_
    refine px (fun _ => pm_getf fl_Gr_11 (pc := 22) d_Gr_firstNeededByChoice_22 H.1 rfl) ?_
    refine px (fun _ => pm_iload_n (pc := 25) d_Gr_firstNeededByChoice_25 rfl) ?_
    obtain ⟨f_2, hf_3, gf_4⟩ := id H.2.1
    refine px (fun _ => pm_aald (kd := 3) (Cn := "GraphRunner$Slot") (j := g_as S n 2) (pc := 26) d_Gr_firstNeededByChoice_26 (fun _ => rfl) hf_3 (rfl) (a2.2) (by decide) (gf_4 (g_as S n 2) a2.2)) ?_
    refine px (fun _ => pm_getf fl_Gr_67 (pc := 27) d_Gr_firstNeededByChoice_27 (H.2.2.2.2.2.2.1 (g_as S n 2) a2.2).1 rfl) ?_
    refine px (fun _ => k_Gr_firstNeededByChoice_30 (kc1 := 0) (ks1 := 0) (kc := 0) (ks := 0) (av := []) (st := [.ref (68 + 2 * n)]) (H.2.2.2.2.2.2.1 (g_as S n 2) a2.2).2.1 (c_isZero hl H a2.2) rfl rfl (Nat.le_of_ble_eq_true rfl)) ?_
    refine pxb (fun _ => pm_if_eq (pc := 33) (tgt := 40) d_Gr_firstNeededByChoice_33 (by decide)) (fun c_5 => ?_) (fun c_5 => ?_)
    · have n_c_5 : ¬ (fEq (gC S (g_as S n 2) (0 * 4 + 0)) FP.dconst0) := g_if0.mp c_5
      refine px (fun _ => pm_iconst (v := 0) (pc := 40) d_Gr_firstNeededByChoice_40 rfl) ?_
      refine px (fun _ => pm_iald (j := 0) (pc := 41) d_Gr_firstNeededByChoice_41 (H.2.2.2.2.2.2.2 n hn).2 (rfl) (by decide) (by decide)) ?_
      rw [a0.1]
      refine px (fun _ => pm_istore_n (lv' := [(3, .int (nI (g_as S n 0))), (2, .int (nI (g_as S n 2))), (0, .ref (0)), (1, .ref (67 + 2 * n))]) (pc := 42) d_Gr_firstNeededByChoice_42 (by decide) rfl) ?_
      refine px (fun _ => pm_aload_n (pc := 43) d_Gr_firstNeededByChoice_43 rfl) ?_
      refine px (fun _ => pm_iload_n (pc := 44) d_Gr_firstNeededByChoice_44 rfl) ?_
      refine px (fun _ => k_Gr_firstNeededByChoice_45 (kc1 := 0) (ks1 := 0) (kc := 0) (ks := 0) (av := [.int (nI (g_as S n 0))]) (st := []) H.1 (c_isThere hl H hW a0.2) rfl rfl (Nat.le_of_ble_eq_true rfl)) ?_
      refine pxb (fun _ => pm_if_eq (pc := 48) (tgt := 55) d_Gr_firstNeededByChoice_48 (by decide)) (fun c_6 => ?_) (fun c_6 => ?_)
      · have n_c_6 : ¬ (g_thP S (g_as S n 0)) := g_if0.mp c_6
        refine px (fun _ => pm_iload_n (pc := 55) d_Gr_firstNeededByChoice_55 rfl) ?_
        exact pxr (pm_iret (pc := 56) d_Gr_firstNeededByChoice_56 rfl rfl) (by simp only [g_fnc]; rw [if_pos (g_isT_y (by assumption : g_thP S (g_as S n 2))), if_neg (by assumption : ¬ fEq (gC S (g_as S n 2) (0 * 4 + 0)) FP.dconst0), if_neg (g_isT_n (by assumption : ¬ g_thP S (g_as S n 0)))]; rfl)
      · have n_c_6 : g_thP S (g_as S n 0) := Decidable.byContradiction fun q => c_6 (g_if0.mpr q)
        refine px (fun _ => pm_iconst (v := -1) (pc := 51) d_Gr_firstNeededByChoice_51 rfl) ?_
        refine px (fun _ => pm_goto (tgt := 56) (pc := 52) d_Gr_firstNeededByChoice_52 (by decide)) ?_
        exact pxr (pm_iret (pc := 56) d_Gr_firstNeededByChoice_56 rfl rfl) (by simp only [g_fnc]; rw [if_pos (g_isT_y (by assumption : g_thP S (g_as S n 2))), if_neg (by assumption : ¬ fEq (gC S (g_as S n 2) (0 * 4 + 0)) FP.dconst0), if_pos (g_isT_y (by assumption : g_thP S (g_as S n 0)))]; rfl)
    · have n_c_5 : fEq (gC S (g_as S n 2) (0 * 4 + 0)) FP.dconst0 := Decidable.byContradiction fun q => c_5 (g_if0.mpr q)
      refine px (fun _ => pm_iconst (v := 1) (pc := 36) d_Gr_firstNeededByChoice_36 rfl) ?_
      refine px (fun _ => pm_goto (tgt := 41) (pc := 37) d_Gr_firstNeededByChoice_37 (by decide)) ?_
      refine px (fun _ => pm_iald (j := 1) (pc := 41) d_Gr_firstNeededByChoice_41 (H.2.2.2.2.2.2.2 n hn).2 (rfl) (by decide) (by decide)) ?_
      rw [a1.1]
      refine px (fun _ => pm_istore_n (lv' := [(3, .int (nI (g_as S n 1))), (2, .int (nI (g_as S n 2))), (0, .ref (0)), (1, .ref (67 + 2 * n))]) (pc := 42) d_Gr_firstNeededByChoice_42 (by decide) rfl) ?_
      refine px (fun _ => pm_aload_n (pc := 43) d_Gr_firstNeededByChoice_43 rfl) ?_
      refine px (fun _ => pm_iload_n (pc := 44) d_Gr_firstNeededByChoice_44 rfl) ?_
      refine px (fun _ => k_Gr_firstNeededByChoice_45 (kc1 := 0) (ks1 := 0) (kc := 0) (ks := 0) (av := [.int (nI (g_as S n 1))]) (st := []) H.1 (c_isThere hl H hW a1.2) rfl rfl (Nat.le_of_ble_eq_true rfl)) ?_
      refine pxb (fun _ => pm_if_eq (pc := 48) (tgt := 55) d_Gr_firstNeededByChoice_48 (by decide)) (fun c_7 => ?_) (fun c_7 => ?_)
      · have n_c_7 : ¬ (g_thP S (g_as S n 1)) := g_if0.mp c_7
        refine px (fun _ => pm_iload_n (pc := 55) d_Gr_firstNeededByChoice_55 rfl) ?_
        exact pxr (pm_iret (pc := 56) d_Gr_firstNeededByChoice_56 rfl rfl) (by simp only [g_fnc]; rw [if_pos (g_isT_y (by assumption : g_thP S (g_as S n 2))), if_pos (by assumption : fEq (gC S (g_as S n 2) (0 * 4 + 0)) FP.dconst0), if_neg (g_isT_n (by assumption : ¬ g_thP S (g_as S n 1)))]; rfl)
      · have n_c_7 : g_thP S (g_as S n 1) := Decidable.byContradiction fun q => c_7 (g_if0.mpr q)
        refine px (fun _ => pm_iconst (v := -1) (pc := 51) d_Gr_firstNeededByChoice_51 rfl) ?_
        refine px (fun _ => pm_goto (tgt := 56) (pc := 52) d_Gr_firstNeededByChoice_52 (by decide)) ?_
        exact pxr (pm_iret (pc := 56) d_Gr_firstNeededByChoice_56 rfl rfl) (by simp only [g_fnc]; rw [if_pos (g_isT_y (by assumption : g_thP S (g_as S n 2))), if_pos (by assumption : fEq (gC S (g_as S n 2) (0 * 4 + 0)) FP.dconst0), if_pos (g_isT_y (by assumption : g_thP S (g_as S n 1)))]; rfl)
  · have n_c_1 : ¬ (g_thP S (g_as S n 2)) := g_if0.mp c_1
    refine px (fun _ => pm_iload_n (pc := 15) d_Gr_firstNeededByChoice_15 rfl) ?_
    exact pxr (pm_iret (pc := 16) d_Gr_firstNeededByChoice_16 rfl rfl) (by simp only [g_fnc]; rw [if_neg (g_isT_n (by assumption : ¬ g_thP S (g_as S n 2)))]; rfl)
set_option maxHeartbeats 4000000 in
set_option maxRecDepth 20000 in
theorem c_fn1 {l : Launch} {G : pm_G} {fi : Bool} {S : gS} {h : pm_H} {n : Nat} (hl : l.stackTraces = false) (H : gH S h) (hW : gW S) (hV : gV S) (hU : gU S) (hm : n < gG S 0) : pm_En l G fi fi 0 0 M_Gr_firstNeeded [.ref (0), .ref (67 + 2 * n)] h (.inl (some (.int (g_oi (g_fn1 S n)))), h) := by
  refine pm_Cn.eq (pm_Cn.of hl (by decide) (Nat.le_of_ble_eq_true rfl) ?_)
  have b1 := hW.1
  have hn : n < 14 := by omega
  have bn := hW.2.2.2.2.2 n hn
  have hu := hU n hm
  refine px (fun _ => pm_aload_n (pc := 0) d_Gr_firstNeeded_0 rfl) ?_
  refine px (fun _ => pm_getf fl_Gr_246 (pc := 1) d_Gr_firstNeeded_1 (H.2.2.2.2.2.2.2 n hn).1 rfl) ?_
  refine px (fun _ => pm_bipush (v := 17) (pc := 4) d_Gr_firstNeeded_4 rfl) ?_
  refine pxn (fun _ => pm_icmp_ne (pc := 6) (tgt := 15) d_Gr_firstNeeded_6 (by decide)) (fun c_1 => ?_) (fun c_1 => ?_)
  · have n_c_1 : ¬ ((gN S n 1) = 17) := fun q => c_1 ((nI_eq (a := (gN S n 1)) (b := 17) (by omega) (by omega)).mpr q)
    refine px (fun _ => pm_iconst (v := 0) (pc := 15) d_Gr_firstNeeded_15 rfl) ?_
    refine px (fun _ => pm_istore_n (lv' := [(2, .int (0)), (0, .ref (0)), (1, .ref (67 + 2 * n))]) (pc := 16) d_Gr_firstNeeded_16 (by decide) rfl) ?_
    exact pxm (lp_fna hl H hW hV hn hm (gN S n 0) 0 (by omega)) (fun r q => by rw [q]; simp only [g_fn1]; rw [if_neg (by assumption)])
  · have n_c_1 : (gN S n 1) = 17 := (nI_eq (a := (gN S n 1)) (b := 17) (by omega) (by omega)).mp c_1
    refine px (fun _ => pm_aload_n (pc := 9) d_Gr_firstNeeded_9 rfl) ?_
    refine px (fun _ => pm_aload_n (pc := 10) d_Gr_firstNeeded_10 rfl) ?_
    refine px (fun _ => k_Gr_firstNeeded_11 (kc1 := 0) (ks1 := 0) (kc := 0) (ks := 0) (av := [.ref (67 + 2 * n)]) (st := []) H.1 (c_fnc hl H hW hV hn hm (by rw [hu.1, (by assumption : gN S n 1 = 17)]; rfl)) rfl rfl (Nat.le_of_ble_eq_true rfl)) ?_
    exact pxr (pm_iret (pc := 14) d_Gr_firstNeeded_14 rfl rfl) (by simp only [g_fn1]; rw [if_pos (by assumption)])
