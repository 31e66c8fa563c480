/-! ===== the class: argument, findShapes ===== -/
theorem g_as_A {S : gS} (hV : gV S) {n k : Nat} (hn : n < gG S 0) (hk : k < gN S n 0) : gA S n k = nI (g_as S n k) ∧ g_as S n k < 20 := hV n hn k hk
def g_rf (S : gS) (n k : Nat) : Nat := if k < gN S n 0 then 8 + 3 * g_as S n k else 5
def gU (S : gS) : Prop := ∀ n, n < gG S 0 → gN S n 0 = g_ar (gN S n 1) ∧ (¬ gQ S n 0 < -8 ∧ ¬ 8 < gQ S n 0) ∧ (¬ gQ S n 1 < -8 ∧ ¬ 8 < gQ S n 1)
def gX (S : gS) : Prop := ∀ pl, pl < gG S 0 → gO S pl < gG S 0 ∧ ∀ k, k < gN S (gO S pl) 0 → g_as S (gO S pl) k ≠ gN S (gO S pl) 2
theorem g_not8 {x : Int32} (h : ¬ 8 < x) : x ≤ 8 := Int32.not_lt.mp h
set_option maxHeartbeats 4000000 in
set_option maxRecDepth 20000 in
theorem c_arg {l : Launch} {G : pm_G} {fi : Bool} {h : pm_H} {S : gS} {n k : Nat} (hl : l.stackTraces = false) (H : gH S h) (hW : gW S) (hV : gV S) (hn : n < 14) (hm : n < gG S 0) (hk : k < 3) : pm_En l G fi fi 0 0 M_Gr_argument [.ref (0), .ref (67 + 2 * n), .int (nI k)] h (.inl (some (.ref (g_rf S n k))), h) := by
  refine pm_Cn.eq (pm_Cn.of hl (by decide) (Nat.le_of_ble_eq_true rfl) ?_)
  have bn := hW.2.2.2.2.2 n hn
  refine px (fun _ => pm_iload_n (pc := 0) d_Gr_argument_0 rfl) ?_
  refine px (fun _ => pm_aload_n (pc := 1) d_Gr_argument_1 rfl) ?_
  refine px (fun _ => pm_getf fl_Gr_203 (pc := 2) d_Gr_argument_2 (H.2.2.2.2.2.2.2 n hn).1 rfl) ?_
  refine pxb (fun _ => pm_icmp_ge (pc := 5) (tgt := 25) d_Gr_argument_5 (by decide)) (fun c_1 => ?_) (fun c_1 => ?_)
  · have n_c_1 : (gN S n 0) ≤ k := (nI_leI (a := (gN S n 0)) (b := k) (by omega) (by omega)).mp c_1
    refine px (fun _ => pm_aload_n (pc := 25) d_Gr_argument_25 rfl) ?_
    refine px (fun _ => pm_getf fl_Gr_31 (pc := 26) d_Gr_argument_26 H.1 rfl) ?_
    exact pxr (pm_aret (pc := 29) d_Gr_argument_29 rfl) (by simp only [g_rf]; rw [if_neg (by omega)])
  · have n_c_1 : ¬ ((gN S n 0) ≤ k) := fun q => c_1 ((nI_leI (a := (gN S n 0)) (b := k) (by omega) (by omega)).mpr q)
    refine px (fun _ => pm_aload_n (pc := 8) d_Gr_argument_8 rfl) ?_
    refine px (fun _ => pm_getf fl_Gr_11 (pc := 9) d_Gr_argument_9 H.1 rfl) ?_
    refine px (fun _ => pm_aload_n (pc := 12) d_Gr_argument_12 rfl) ?_
    refine px (fun _ => pm_getf fl_Gr_206 (pc := 13) d_Gr_argument_13 (H.2.2.2.2.2.2.2 n hn).1 rfl) ?_
    refine px (fun _ => pm_iload_n (pc := 16) d_Gr_argument_16 rfl) ?_
    refine px (fun _ => pm_iald (j := k) (pc := 17) d_Gr_argument_17 (H.2.2.2.2.2.2.2 n hn).2 (rfl) (hk) (by decide)) ?_
    have av := hV n hm k (by omega)
    rw [av.1]
    obtain ⟨f_2, hf_3, gf_4⟩ := id H.2.1
    refine px (fun _ => pm_aald (kd := 3) (Cn := "GraphRunner$Slot") (j := g_as S n k) (pc := 18) d_Gr_argument_18 (fun _ => rfl) hf_3 (rfl) (av.2) (by decide) (gf_4 (g_as S n k) av.2)) ?_
    refine px (fun _ => pm_getf fl_Gr_67 (pc := 19) d_Gr_argument_19 (H.2.2.2.2.2.2.1 (g_as S n k) av.2).1 rfl) ?_
    refine px (fun _ => pm_goto (tgt := 29) (pc := 22) d_Gr_argument_22 (by decide)) ?_
    exact pxr (pm_aret (pc := 29) d_Gr_argument_29 rfl) (by simp only [g_rf]; rw [if_pos (by omega)])
def gsTT (S : gS) (t : Nat → Nat → Nat) : gS := (S.1, S.2.1, S.2.2.1, S.2.2.2.1, t, S.2.2.2.2.2)
theorem gsTT_pt (S : gS) (j : Nat) (y : Option (Nat × Nat × Nat)) : ∃ t, g_pt S j y = gsTT S t := by
  cases y with
  | none => exact ⟨S.2.2.2.2.1, rfl⟩
  | some y => obtain ⟨t, r, c⟩ := y; exact ⟨_, rfl⟩
def g_fn (S : gS) (n : Nat) : Option (Nat × Nat × Nat) := g_fx S n (g_as S n 0) (g_as S n 1) (g_as S n 2)
def g_shL : Nat → Nat → gS → Option gS
  | 0, _, S => some S
  | d + 1, pl, S => match g_fn S (gO S pl) with
    | none => none
    | some v => g_shL d (pl + 1) (g_pt S (gN S (gO S pl) 2) (some v))
theorem gV.TT {S : gS} (hV : gV S) (t : Nat → Nat → Nat) : gV (gsTT S t) := hV
theorem gU.TT {S : gS} (hV : gU S) (t : Nat → Nat → Nat) : gU (gsTT S t) := hV
theorem gX.TT {S : gS} (hV : gX S) (t : Nat → Nat → Nat) : gX (gsTT S t) := hV
abbrev g_PL (S : gS) (h : pm_H) : Option gS → pm_O × pm_H → Prop
  | some S' => fun r => r.1 = .inl (some (.int 1)) ∧ gH S' r.2 ∧ gFr h r.2
  | none => fun r => r.1 = .inl (some (.int 0)) ∧ gFr h r.2 ∧ ∃ t, gH (gsTT S t) r.2 ∧ gW (gsTT S t) ∧ ∀ s, (∀ i, i < gG S 0 → s ≠ gN S (gO S i) 2) → t s = gT S s
set_option maxHeartbeats 4000000 in
set_option maxRecDepth 20000 in
theorem lp_shapes {l : Launch} {G : pm_G} {fi : Bool} (hl : l.stackTraces = false) : ∀ (d pl : Nat) (S : gS) (h : pm_H), gH S h → gW S → gV S → gU S → gX S → pl + d = gG S 0 → pm_Px l G fi fi 0 0 M_Gr_findShapes 2 [(1, .int (nI pl)), (0, .ref (0))] [] h (g_PL S h (g_shL d pl S)) := by
  intro d
  induction d with
  | zero =>
    intro pl S h H hW hV hU hX hb
    obtain ⟨b1, b2, b3, b4, b5, b6⟩ := id hW
    refine px (fun _ => pm_iload_n (pc := 2) d_Gr_findShapes_2 rfl) ?_
    refine px (fun _ => pm_aload_n (pc := 3) d_Gr_findShapes_3 rfl) ?_
    refine px (fun _ => pm_getf fl_Gr_35 (pc := 4) d_Gr_findShapes_4 H.1 rfl) ?_
    refine pxb (fun _ => pm_icmp_ge (pc := 7) (tgt := 69) d_Gr_findShapes_7 (by decide)) (fun c_1 => ?_) (fun c_1 => absurd (by rw [show pl = gG S 0 by omega]; exact (nI_leI (a := gG S 0) (b := gG S 0) (by omega) (by omega)).mpr (Nat.le_refl _)) c_1)
    refine px (fun _ => pm_iconst (v := 1) (pc := 69) d_Gr_findShapes_69 rfl) ?_
    exact pxr (pm_iret (pc := 70) d_Gr_findShapes_70 rfl rfl) ⟨rfl, H, gFr.rf h⟩
  | succ d ih =>
    intro pl S h H hW hV hU hX hb
    obtain ⟨b1, b2, b3, b4, b5, b6⟩ := id hW
    have hpl : pl < 14 := by omega
    obtain ⟨x1, x2⟩ := hX pl (by omega)
    have e9 : g_shL (d + 1) pl S = match g_fn S (gO S pl) with | none => none | some v => g_shL d (pl + 1) (g_pt S (gN S (gO S pl) 2) (some v)) := rfl
    have hn : gO S pl < 14 := by omega
    obtain ⟨n, en⟩ : ∃ n, n = gO S pl := ⟨_, rfl⟩
    rw [← en] at x1 x2 e9 hn
    have bn := b6 n hn
    have hu := hU n x1
    have ho : gN S n 2 < 20 := bn.2.2.1
    have ar := g_ar_ok (gN S n 1) (by omega)
    have a0 := hV n x1 0 (by omega)
    have K := c_find (l := l) (G := G) (fi := fi) (a := g_as S n 0) (b := g_as S n 1) (c := g_as S n 2) (o9 := gN S n 2) (xb := g_rf S n 1) (xc := g_rf S n 2) hl H hW hn a0.2 ho (fun q => ⟨by simp only [g_rf]; rw [if_pos (by omega)], (hV n x1 1 (by omega)).2⟩) (fun q => ⟨by simp only [g_rf]; rw [if_pos (by omega)], (hV n x1 2 (by omega)).2⟩) (x2 0 (by omega)) (fun q => x2 2 (by rw [hu.1, q]; decide)) (g_not8 hu.2.2.2)
    have hrf : g_rf S n 0 = 8 + 3 * g_as S n 0 := by simp only [g_rf]; rw [if_pos (by omega)]
    rw [← hrf] at K
    refine px (fun _ => pm_iload_n (pc := 2) d_Gr_findShapes_2 rfl) ?_
    refine px (fun _ => pm_aload_n (pc := 3) d_Gr_findShapes_3 rfl) ?_
    refine px (fun _ => pm_getf fl_Gr_35 (pc := 4) d_Gr_findShapes_4 H.1 rfl) ?_
    refine pxb (fun _ => pm_icmp_ge (pc := 7) (tgt := 69) d_Gr_findShapes_7 (by decide)) (fun c_1 => absurd c_1 (fun q => absurd ((nI_leI (a := gG S 0) (b := pl) (by omega) (by omega)).mp q) (by omega))) (fun c_1 => ?_)
    refine px (fun _ => pm_aload_n (pc := 10) d_Gr_findShapes_10 rfl) ?_
    refine px (fun _ => pm_getf fl_Gr_17 (pc := 11) d_Gr_findShapes_11 H.1 rfl) ?_
    refine px (fun _ => pm_aload_n (pc := 14) d_Gr_findShapes_14 rfl) ?_
    refine px (fun _ => pm_getf fl_Gr_21 (pc := 15) d_Gr_findShapes_15 H.1 rfl) ?_
    refine px (fun _ => pm_iload_n (pc := 18) d_Gr_findShapes_18 rfl) ?_
    refine px (fun _ => pm_iald (j := pl) (pc := 19) d_Gr_findShapes_19 H.2.2.2.1 (rfl) (hpl) (by decide)) ?_
    rw [← en]
    obtain ⟨f_2, hf_3, gf_4⟩ := id H.2.2.1
    refine px (fun _ => pm_aald (kd := 4) (Cn := "GraphRunner$Node") (j := n) (pc := 20) d_Gr_findShapes_20 (fun _ => rfl) hf_3 (rfl) (hn) (by decide) (gf_4 n hn)) ?_
    refine px (fun _ => pm_astore_n (lv' := [(2, .ref (67 + 2 * n)), (1, .int (nI pl)), (0, .ref (0))]) (pc := 21) d_Gr_findShapes_21 (by decide) rfl) ?_
    refine px (fun _ => pm_aload_n (pc := 22) d_Gr_findShapes_22 rfl) ?_
    refine px (fun _ => pm_getf fl_Gr_11 (pc := 23) d_Gr_findShapes_23 H.1 rfl) ?_
    refine px (fun _ => pm_aload_n (pc := 26) d_Gr_findShapes_26 rfl) ?_
    refine px (fun _ => pm_getf fl_Gr_131 (pc := 27) d_Gr_findShapes_27 (H.2.2.2.2.2.2.2 n hn).1 rfl) ?_
    obtain ⟨f_5, hf_6, gf_7⟩ := id H.2.1
    refine px (fun _ => pm_aald (kd := 3) (Cn := "GraphRunner$Slot") (j := gN S n 2) (pc := 30) d_Gr_findShapes_30 (fun _ => rfl) hf_6 (rfl) (ho) (by decide) (gf_7 (gN S n 2) ho)) ?_
    refine px (fun _ => pm_getf fl_Gr_67 (pc := 31) d_Gr_findShapes_31 (H.2.2.2.2.2.2.1 (gN S n 2) ho).1 rfl) ?_
    refine px (fun _ => pm_astore_n (lv' := [(3, .ref (8 + 3 * gN S n 2)), (2, .ref (67 + 2 * n)), (1, .int (nI pl)), (0, .ref (0))]) (pc := 34) d_Gr_findShapes_34 (by decide) rfl) ?_
    refine px (fun _ => pm_aload_n (pc := 35) d_Gr_findShapes_35 rfl) ?_
    refine px (fun _ => pm_aload_n (pc := 36) d_Gr_findShapes_36 rfl) ?_
    refine px (fun _ => pm_aload_n (pc := 37) d_Gr_findShapes_37 rfl) ?_
    refine px (fun _ => pm_iconst (v := 0) (pc := 38) d_Gr_findShapes_38 rfl) ?_
    refine px (fun _ => k_Gr_findShapes_39 (kc1 := 0) (ks1 := 0) (kc := 0) (ks := 0) (av := [.ref (67 + 2 * n), .int (0)]) (st := [.ref (67 + 2 * n)]) H.1 (c_arg (k := 0) hl H hW hV hn x1 (by omega)) rfl rfl (Nat.le_of_ble_eq_true rfl)) ?_
    refine px (fun _ => pm_aload_n (pc := 42) d_Gr_findShapes_42 rfl) ?_
    refine px (fun _ => pm_aload_n (pc := 43) d_Gr_findShapes_43 rfl) ?_
    refine px (fun _ => pm_iconst (v := 1) (pc := 44) d_Gr_findShapes_44 rfl) ?_
    refine px (fun _ => k_Gr_findShapes_45 (kc1 := 0) (ks1 := 0) (kc := 0) (ks := 0) (av := [.ref (67 + 2 * n), .int (1)]) (st := [.ref (g_rf S n 0), .ref (67 + 2 * n)]) H.1 (c_arg (k := 1) hl H hW hV hn x1 (by omega)) rfl rfl (Nat.le_of_ble_eq_true rfl)) ?_
    refine px (fun _ => pm_aload_n (pc := 48) d_Gr_findShapes_48 rfl) ?_
    refine px (fun _ => pm_aload_n (pc := 49) d_Gr_findShapes_49 rfl) ?_
    refine px (fun _ => pm_iconst (v := 2) (pc := 50) d_Gr_findShapes_50 rfl) ?_
    refine px (fun _ => k_Gr_findShapes_51 (kc1 := 0) (ks1 := 0) (kc := 0) (ks := 0) (av := [.ref (67 + 2 * n), .int (2)]) (st := [.ref (g_rf S n 1), .ref (g_rf S n 0), .ref (67 + 2 * n)]) H.1 (c_arg (k := 2) hl H hW hV hn x1 (by omega)) rfl rfl (Nat.le_of_ble_eq_true rfl)) ?_
    refine px (fun _ => pm_aload_n (pc := 54) d_Gr_findShapes_54 rfl) ?_
    obtain ⟨⟨o8, h8⟩, ⟨e8, y8, H8, F8, ok8, ev8⟩, en8⟩ := K
    dsimp only at e8 H8 F8
    subst e8
    refine px (fun _ => k_Gr_findShapes_55 (kc1 := 0) (ks1 := 0) (kc := 0) (ks := 0) (av := [.ref (67 + 2 * n), .ref (g_rf S n 0), .ref (g_rf S n 1), .ref (g_rf S n 2), .ref (8 + 3 * gN S n 2)]) (st := []) (en8) rfl rfl (Nat.le_of_ble_eq_true rfl)) ?_
    refine pxn (fun _ => pm_if_ne (pc := 58) (tgt := 63) d_Gr_findShapes_58 (by decide)) (fun c_8 => ?_) (fun c_8 => ?_)
    · have n_c_8 : (g_fn S n).isSome = true := Decidable.byContradiction fun q => c_8 (g_if0.mpr q)
      refine px (fun _ => pm_iinc (x := nI pl) (v := nI (pl + 1)) (lv' := [(1, .int (nI (pl + 1))), (3, .ref (8 + 3 * gN S n 2)), (2, .ref (67 + 2 * n)), (0, .ref (0))]) (pc := 63) d_Gr_findShapes_63 rfl (nI_1 _) (by decide) rfl) ?_
      refine px (fun _ => pm_goto (tgt := 2) (pc := 66) d_Gr_findShapes_66 (by decide)) ?_
      obtain ⟨v, hv⟩ : ∃ v, g_fn S n = some v := Option.isSome_iff_exists.mp n_c_8
      have ey := ev8 v hv
      subst ey
      obtain ⟨t8, et⟩ := gsTT_pt S (gN S n 2) (some v)
      rw [e9, hv]
      have hW8 := hW.pt (j := gN S n 2) ok8
      have eg : gG (g_pt S (gN S n 2) (some v)) 0 = gG S 0 := by rw [et]; rfl
      refine pxd [0, 3] rfl ?_
      refine pxm (ih (pl + 1) _ _ H8 hW8 (by rw [et]; exact hV.TT t8) (by rw [et]; exact hU.TT t8) (by rw [et]; exact hX.TT t8) (by rw [eg]; omega)) (fun r q => ?_)
      revert q
      show g_PL _ _ (g_shL d (pl + 1) (g_pt S (gN S n 2) (some v))) r → g_PL S h (g_shL d (pl + 1) (g_pt S (gN S n 2) (some v))) r
      cases g_shL d (pl + 1) (g_pt S (gN S n 2) (some v)) with
      | some S9 => exact fun q => ⟨q.1, q.2.1, F8.tr q.2.2⟩
      | none => exact fun q => ⟨q.1, F8.tr q.2.1, by obtain ⟨-, -, t9, z1, z2, z3⟩ := q; rw [et] at z1 z2; exact ⟨t9, z1, z2, fun s9 hs9 => (z3 s9 (by rw [et]; exact hs9)).trans (by funext k9; exact g_pt_n S _ _ (by rw [en]; exact hs9 pl (by omega)) k9)⟩⟩
    · have n_c_8 : ¬ ((g_fn S n).isSome = true) := g_if0.mp c_8
      refine px (fun _ => pm_iconst (v := 0) (pc := 61) d_Gr_findShapes_61 rfl) ?_
      have hv : g_fn S n = none := Option.not_isSome_iff_eq_none.mp n_c_8
      obtain ⟨t8, et⟩ := gsTT_pt S (gN S n 2) y8
      have hW8 := hW.pt (j := gN S n 2) ok8
      have e7 : gT (g_pt S (gN S n 2) y8) = t8 := by rw [et]; rfl
      have v8 : ∀ s, (∀ i, i < gG S 0 → s ≠ gN S (gO S i) 2) → t8 s = gT S s := fun s9 hs9 => by rw [← e7]; funext k9; exact g_pt_n S _ _ (by rw [en]; exact hs9 pl (by omega)) k9
      rw [et] at H8 hW8
      rw [e9, hv]
      exact pxr (pm_iret (pc := 62) d_Gr_findShapes_62 rfl rfl) ⟨rfl, F8, t8, H8, hW8, v8⟩
set_option maxHeartbeats 4000000 in
set_option maxRecDepth 20000 in
theorem c_findShapes {l : Launch} {G : pm_G} {fi : Bool} {h : pm_H} {S : gS} (hl : l.stackTraces = false) (H : gH S h) (hW : gW S) (hV : gV S) (hU : gU S) (hX : gX S) : pm_Cn l G fi fi 0 0 M_Gr_findShapes [.ref 0] h (g_PL S h (g_shL (gG S 0) 0 S)) := by
  refine pm_Cn.of hl (by decide) (Nat.le_of_ble_eq_true rfl) ?_
  refine px (fun _ => pm_iconst (v := 0) (pc := 0) d_Gr_findShapes_0 rfl) ?_
  refine px (fun _ => pm_istore_n (lv' := [(1, .int (0)), (0, .ref (0))]) (pc := 1) d_Gr_findShapes_1 (by decide) rfl) ?_
  exact lp_shapes hl (gG S 0) 0 S h H hW hV hU hX (by omega)
