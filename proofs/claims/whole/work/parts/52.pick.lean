/-! ===== the class: firstGreatest, cut, pick, isZero, isTooLarge ===== -/
def g_fi (X : Nat → UInt64) : Nat → Nat
  | 0 => 0
  | m + 1 => if fGt (X (m + 1)) (X (g_fi X m)) then m + 1 else g_fi X m
theorem g_fi_le (X : Nat → UInt64) : ∀ m, g_fi X m ≤ m
  | 0 => Nat.le_refl 0
  | m + 1 => by
    have := g_fi_le X m
    simp only [g_fi]
    split <;> omega
theorem g_fi_s {X : Nat → UInt64} {k : Nat} (hk : 1 ≤ k) : g_fi X k = if fGt (X k) (X (g_fi X (k - 1))) then k else g_fi X (k - 1) := by
  obtain ⟨m, rfl⟩ : ∃ m, k = m + 1 := ⟨k - 1, by omega⟩
  rfl
set_option maxHeartbeats 4000000 in
set_option maxRecDepth 20000 in
theorem lq_fg {l : Launch} {G : pm_G} {fi : Bool} {S : gS} {h : pm_H} {Post : pm_O × pm_H → Prop} {f : Nat → UInt64} {a o9 i : Nat} (hl : l.stackTraces = false) (hW : gW S) (ho : o9 < 20) (ha : a < 20) (na : a ≠ o9) (H : gH (gsC S o9 f) h) (hi : i < 4) : ∀ (d j : Nat), j + d = gT S a 2 → 1 ≤ j → pm_Px l G fi fi 0 0 M_Wk_firstGreatest 50 [(3, .int (nI (g_fi (g_c1 S a i) (gT S a 2 - 1)))), (2, .int (nI i)), (0, .ref (8 + 3 * a)), (1, .ref (8 + 3 * o9))] [] h Post → pm_Px l G fi fi 0 0 M_Wk_firstGreatest 15 [(4, .int (nI j)), (3, .int (nI (g_fi (g_c1 S a i) (j - 1)))), (2, .int (nI i)), (0, .ref (8 + 3 * a)), (1, .ref (8 + 3 * o9))] [] h Post := by
  have ba := hW.2.2.2.2.1 a ha
  have t_a : h[8 + 3 * a]? = some (pm_Ob 2 [.ref (9 + 3 * a), .int (nI (gT S a 0)), .int (nI (gT S a 1)), .int (nI (gT S a 2))]) := (H.2.2.2.2.2.2.1 a ha).2.1
  have t_o9 : h[8 + 3 * o9]? = some (pm_Ob 2 [.ref (9 + 3 * o9), .int (nI (gT S o9 0)), .int (nI (gT S o9 1)), .int (nI (gT S o9 2))]) := (H.2.2.2.2.2.2.1 o9 ho).2.1
  intro d
  induction d with
  | zero =>
    intro j hd9 h1 K
    have ej : j = gT S a 2 := by omega
    refine px (fun _ => pm_iload (pc := 15) d_Wk_firstGreatest_15 rfl) ?_
    refine px (fun _ => pm_aload_n (pc := 17) d_Wk_firstGreatest_17 rfl) ?_
    refine px (fun _ => pm_getf fl_Wk_58 (pc := 18) d_Wk_firstGreatest_18 t_a rfl) ?_
    refine pxb (fun _ => pm_icmp_ge (pc := 21) (tgt := 50) d_Wk_firstGreatest_21 (by decide)) (fun c_1 => ?_) (fun c_1 => absurd (by rw [ej]; exact (nI_leI (a := gT S a 2) (b := gT S a 2) (by omega) (by omega)).mpr (Nat.le_refl _)) c_1)
    refine pxd [1, 2, 3, 4] rfl ?_
    rw [ej]; exact K
  | succ d ih =>
    intro j hd9 h1 K
    have hj : j < gT S a 2 := by omega
    have fl := g_fi_le (g_c1 S a i) (j - 1)
    have es := g_fi_s (X := (g_c1 S a i)) h1
    refine px (fun _ => pm_iload (pc := 15) d_Wk_firstGreatest_15 rfl) ?_
    refine px (fun _ => pm_aload_n (pc := 17) d_Wk_firstGreatest_17 rfl) ?_
    refine px (fun _ => pm_getf fl_Wk_58 (pc := 18) d_Wk_firstGreatest_18 t_a rfl) ?_
    refine pxb (fun _ => pm_icmp_ge (pc := 21) (tgt := 50) d_Wk_firstGreatest_21 (by decide)) (fun c_1 => absurd c_1 (fun q => absurd ((nI_leI (a := gT S a 2) (b := j) (by omega) (by omega)).mp q) (by omega))) (fun c_1 => ?_)
    refine px (fun _ => pm_aload_n (pc := 24) d_Wk_firstGreatest_24 rfl) ?_
    refine px (fun _ => pm_iload_n (pc := 25) d_Wk_firstGreatest_25 rfl) ?_
    refine px (fun _ => pm_iload (pc := 26) d_Wk_firstGreatest_26 rfl) ?_
    refine px (fun _ => k_Wk_firstGreatest_28 (kc1 := 0) (ks1 := 0) (kc := 0) (ks := 0) (av := [.int (nI i), .int (nI j)]) (st := []) t_a (c_atf (i := i) (j := j) hl H ha na (by omega) (by omega)) rfl rfl (Nat.le_of_ble_eq_true rfl)) ?_
    refine px (fun _ => pm_aload_n (pc := 31) d_Wk_firstGreatest_31 rfl) ?_
    refine px (fun _ => pm_iload_n (pc := 32) d_Wk_firstGreatest_32 rfl) ?_
    refine px (fun _ => pm_iload_n (pc := 33) d_Wk_firstGreatest_33 rfl) ?_
    refine px (fun _ => k_Wk_firstGreatest_34 (kc1 := 0) (ks1 := 0) (kc := 0) (ks := 0) (av := [.int (nI i), .int (nI (g_fi (g_c1 S a i) (j - 1)))]) (st := [.double (gC S a (i * 4 + j))]) t_a (c_atf (i := i) (j := (g_fi (g_c1 S a i) (j - 1))) hl H ha na (by omega) (by omega)) rfl rfl (Nat.le_of_ble_eq_true rfl)) ?_
    refine px (fun _ => pm_dcmp (pc := 37) d_Wk_firstGreatest_37) ?_
    refine pxb (fun _ => pm_if_le (pc := 38) (tgt := 44) d_Wk_firstGreatest_38 (by decide)) (fun c_2 => ?_) (fun c_2 => ?_)
    · refine px (fun _ => pm_iinc (x := nI j) (v := nI (j + 1)) (lv' := [(4, .int (nI (j + 1))), (3, .int (nI (g_fi (g_c1 S a i) (j - 1)))), (2, .int (nI i)), (0, .ref (8 + 3 * a)), (1, .ref (8 + 3 * o9))]) (pc := 44) d_Wk_firstGreatest_44 rfl (nI_1 _) (by decide) rfl) ?_
      refine px (fun _ => pm_goto (tgt := 15) (pc := 47) d_Wk_firstGreatest_47 (by decide)) ?_
      refine pxd [0, 1, 2, 3, 4] rfl ?_
      have e9 : g_fi (g_c1 S a i) (j - 1) = g_fi (g_c1 S a i) (j + 1 - 1) := by rw [Nat.add_sub_cancel, es, if_neg (fun q => q (by assumption))]
      have k9 := ih (j + 1) (by omega) (by omega) K
      rw [← e9] at k9; exact k9
    · refine px (fun _ => pm_iload (pc := 41) d_Wk_firstGreatest_41 rfl) ?_
      refine px (fun _ => pm_istore_n (lv' := [(3, .int (nI j)), (4, .int (nI j)), (2, .int (nI i)), (0, .ref (8 + 3 * a)), (1, .ref (8 + 3 * o9))]) (pc := 43) d_Wk_firstGreatest_43 (by decide) rfl) ?_
      refine px (fun _ => pm_iinc (x := nI j) (v := nI (j + 1)) (lv' := [(4, .int (nI (j + 1))), (3, .int (nI j)), (2, .int (nI i)), (0, .ref (8 + 3 * a)), (1, .ref (8 + 3 * o9))]) (pc := 44) d_Wk_firstGreatest_44 rfl (nI_1 _) (by decide) rfl) ?_
      refine px (fun _ => pm_goto (tgt := 15) (pc := 47) d_Wk_firstGreatest_47 (by decide)) ?_
      refine pxd [0, 1, 2, 3, 4] rfl ?_
      have e9 : j = g_fi (g_c1 S a i) (j + 1 - 1) := by rw [Nat.add_sub_cancel, es, if_pos (by assumption)]
      have k9 := ih (j + 1) (by omega) (by omega) K
      rw [← e9] at k9; exact k9
set_option maxHeartbeats 4000000 in
set_option maxRecDepth 20000 in
theorem lq_fg1 {l : Launch} {G : pm_G} {fi : Bool} {S : gS} {h0 : pm_H} {Post : pm_O × pm_H → Prop} {a o9 : Nat} (hl : l.stackTraces = false) (hW : gW S) (ho : o9 < 20) (ha : a < 20) (na : a ≠ o9) : ∀ (d i : Nat) (f : Nat → UInt64) (h : pm_H), gH (gsC S o9 f) h → gFr h0 h → g_inv (fun x y => FP.i2d (nI (g_fi (g_c1 S a x) (gT S a 2 - 1)))) 1 f (i) 0 → i + d = gT S a 1 → (∀ f1 h1, gH (gsC S o9 f1) h1 → gFr h0 h1 → g_inv (fun x y => FP.i2d (nI (g_fi (g_c1 S a x) (gT S a 2 - 1)))) 1 f1 (gT S a 1) 0 → pm_Px l G fi fi 0 0 M_Wk_firstGreatest 64 [(0, .ref (8 + 3 * a)), (1, .ref (8 + 3 * o9))] [] h1 Post) → pm_Px l G fi fi 0 0 M_Wk_firstGreatest 2 [(2, .int (nI i)), (0, .ref (8 + 3 * a)), (1, .ref (8 + 3 * o9))] [] h Post := by
  intro d
  induction d with
  | zero =>
    intro i f h H F iv hd9 K
    have bo := hW.2.2.2.2.1 o9 ho
    have ba := hW.2.2.2.2.1 a ha
    have t_a : h[8 + 3 * a]? = some (pm_Ob 2 [.ref (9 + 3 * a), .int (nI (gT S a 0)), .int (nI (gT S a 1)), .int (nI (gT S a 2))]) := (H.2.2.2.2.2.2.1 a ha).2.1
    have t_o9 : h[8 + 3 * o9]? = some (pm_Ob 2 [.ref (9 + 3 * o9), .int (nI (gT S o9 0)), .int (nI (gT S o9 1)), .int (nI (gT S o9 2))]) := (H.2.2.2.2.2.2.1 o9 ho).2.1
    have ej : i = gT S a 1 := by omega
    refine px (fun _ => pm_iload_n (pc := 2) d_Wk_firstGreatest_2 rfl) ?_
    refine px (fun _ => pm_aload_n (pc := 3) d_Wk_firstGreatest_3 rfl) ?_
    refine px (fun _ => pm_getf fl_Wk_53 (pc := 4) d_Wk_firstGreatest_4 t_a rfl) ?_
    refine pxb (fun _ => pm_icmp_ge (pc := 7) (tgt := 64) d_Wk_firstGreatest_7 (by decide)) (fun c_1 => ?_) (fun c_1 => absurd (by rw [ej]; exact (nI_leI (a := gT S a 1) (b := gT S a 1) (by omega) (by omega)).mpr (Nat.le_refl _)) c_1)
    refine pxd [1, 2] rfl ?_
    exact K f h H F (by rw [ej] at iv; exact iv)
  | succ d ih =>
    intro i f h H F iv hd9 K
    have bo := hW.2.2.2.2.1 o9 ho
    have ba := hW.2.2.2.2.1 a ha
    have t_a : h[8 + 3 * a]? = some (pm_Ob 2 [.ref (9 + 3 * a), .int (nI (gT S a 0)), .int (nI (gT S a 1)), .int (nI (gT S a 2))]) := (H.2.2.2.2.2.2.1 a ha).2.1
    have t_o9 : h[8 + 3 * o9]? = some (pm_Ob 2 [.ref (9 + 3 * o9), .int (nI (gT S o9 0)), .int (nI (gT S o9 1)), .int (nI (gT S o9 2))]) := (H.2.2.2.2.2.2.1 o9 ho).2.1
    have hi : i < gT S a 1 := by omega
    refine px (fun _ => pm_iload_n (pc := 2) d_Wk_firstGreatest_2 rfl) ?_
    refine px (fun _ => pm_aload_n (pc := 3) d_Wk_firstGreatest_3 rfl) ?_
    refine px (fun _ => pm_getf fl_Wk_53 (pc := 4) d_Wk_firstGreatest_4 t_a rfl) ?_
    refine pxb (fun _ => pm_icmp_ge (pc := 7) (tgt := 64) d_Wk_firstGreatest_7 (by decide)) (fun c_1 => absurd c_1 (fun q => absurd ((nI_leI (a := gT S a 1) (b := i) (by omega) (by omega)).mp q) (by omega))) (fun c_1 => ?_)
    refine px (fun _ => pm_iconst (v := 0) (pc := 10) d_Wk_firstGreatest_10 rfl) ?_
    refine px (fun _ => pm_istore_n (lv' := [(3, .int (0)), (2, .int (nI i)), (0, .ref (8 + 3 * a)), (1, .ref (8 + 3 * o9))]) (pc := 11) d_Wk_firstGreatest_11 (by decide) rfl) ?_
    refine px (fun _ => pm_iconst (v := 1) (pc := 12) d_Wk_firstGreatest_12 rfl) ?_
    refine px (fun _ => pm_istore (lv' := [(4, .int (1)), (3, .int (0)), (2, .int (nI i)), (0, .ref (8 + 3 * a)), (1, .ref (8 + 3 * o9))]) (pc := 13) d_Wk_firstGreatest_13 (by decide) rfl) ?_
    refine pxd [0, 1, 2, 3, 4] rfl ?_
    refine lq_fg hl hW ho ha na H (by omega) (gT S a 2 - 1) 1 (by omega) (by omega) ?_
    refine px (fun _ => pm_aload_n (pc := 50) d_Wk_firstGreatest_50 rfl) ?_
    refine px (fun _ => pm_iload_n (pc := 51) d_Wk_firstGreatest_51 rfl) ?_
    refine px (fun _ => pm_iconst (v := 0) (pc := 52) d_Wk_firstGreatest_52 rfl) ?_
    refine px (fun _ => pm_iload_n (pc := 53) d_Wk_firstGreatest_53 rfl) ?_
    refine px (fun _ => pm_i2d (pc := 54) d_Wk_firstGreatest_54) ?_
    obtain ⟨⟨o2, h2⟩, ⟨e2, H2, F2⟩, en2⟩ := c_putf (l := l) (G := G) (fi := fi) (v := (FP.i2d (nI (g_fi (g_c1 S a i) (gT S a 2 - 1))))) hl H hW ho (i := i) (j := 0) (by omega) (by omega)
    dsimp only at e2 H2 F2
    subst e2
    refine px (fun _ => k_Wk_firstGreatest_55 (kc1 := 0) (ks1 := 0) (kc := 0) (ks := 0) (av := [.int (nI i), .int (0), .double ((FP.i2d (nI (g_fi (g_c1 S a i) (gT S a 2 - 1)))))]) (st := []) t_o9 (en2) rfl rfl (Nat.le_of_ble_eq_true rfl)) ?_
    refine px (fun _ => pm_iinc (x := nI i) (v := nI (i + 1)) (lv' := [(2, .int (nI (i + 1))), (3, .int (nI (g_fi (g_c1 S a i) (gT S a 2 - 1)))), (0, .ref (8 + 3 * a)), (1, .ref (8 + 3 * o9))]) (pc := 58) d_Wk_firstGreatest_58 rfl (nI_1 _) (by decide) rfl) ?_
    refine px (fun _ => pm_goto (tgt := 2) (pc := 61) d_Wk_firstGreatest_61 (by decide)) ?_
    refine pxd [0, 2, 3] rfl ?_
    exact ih (i + 1) _ _ H2 (F.tr (F2)) ((iv.step (by omega) (by omega) rfl).row) (by omega) K
set_option maxHeartbeats 4000000 in
set_option maxRecDepth 20000 in
theorem w_fg {l : Launch} {G : pm_G} {fi : Bool} {h : pm_H} {S : gS} {a o9 : Nat} (hl : l.stackTraces = false) (H : gH S h) (hW : gW S) (ho : o9 < 20) (ha : a < 20) (na : a ≠ o9) (sr : gT S o9 1 = gT S a 1) (sc : gT S o9 2 = 1) : pm_Cn l G fi fi 0 0 M_Wk_firstGreatest [.ref (8 + 3 * a), .ref (8 + 3 * o9)] h (g_Pw S o9 h (fun x y => FP.i2d (nI (g_fi (g_c1 S a x) (gT S a 2 - 1)))) (gT S o9 1) (gT S o9 2) (.inl none)) := by
  refine pm_Cn.of hl (by decide) (Nat.le_of_ble_eq_true rfl) ?_
  have bo := hW.2.2.2.2.1 o9 ho
  refine px (fun _ => pm_iconst (v := 0) (pc := 0) d_Wk_firstGreatest_0 rfl) ?_
  refine px (fun _ => pm_istore_n (lv' := [(2, .int (0)), (0, .ref (8 + 3 * a)), (1, .ref (8 + 3 * o9))]) (pc := 1) d_Wk_firstGreatest_1 (by decide) rfl) ?_
  refine lq_fg1 hl hW ho ha na (gT S a 1) 0 (gC S o9) h (by rw [gsC_self]; exact H) (gFr.rf h) g_inv.z (by omega) (fun f2 h2 H2 F2 iv2 => ?_)
  exact pxr (pm_vret (pc := 64) d_Wk_firstGreatest_64 rfl) ⟨rfl, f2, H2, F2, by rw [sr, sc]; exact iv2⟩
theorem g_rinv.inv {S : gS} {a q i co : Nat} {E : Nat → Nat → UInt64} {f f1 : Nat → UInt64} (iv : g_inv E co f i 0) (h : g_rinv S a f q i f1 co) (hc : co ≤ 4) (he : ∀ y, y < co → gC S a (q * 4 + y) = E i y) : g_inv E co f1 (i + 1) 0 := by
  intro x y hy hb
  rw [h x y (by omega)]
  by_cases e : x = i
  · rw [if_pos ⟨e, hy⟩, he y hy, e]
  · rw [if_neg (fun q => e q.1)]; exact iv x y hy (by omega)
set_option maxHeartbeats 4000000 in
set_option maxRecDepth 20000 in
theorem lq_cut1 {l : Launch} {G : pm_G} {fi : Bool} {S : gS} {h0 : pm_H} {Post : pm_O × pm_H → Prop} {a o9 p : Nat} (hl : l.stackTraces = false) (hW : gW S) (ho : o9 < 20) (ha : a < 20) (na : a ≠ o9) (hp : p + gT S o9 1 ≤ 4) : ∀ (d i : Nat) (f : Nat → UInt64) (h : pm_H), gH (gsC S o9 f) h → gFr h0 h → g_inv (fun x y => gC S a ((p + x) * 4 + y)) (gT S a 2) f (i) 0 → i + d = gT S o9 1 → (∀ f1 h1, gH (gsC S o9 f1) h1 → gFr h0 h1 → g_inv (fun x y => gC S a ((p + x) * 4 + y)) (gT S a 2) f1 (gT S o9 1) 0 → pm_Px l G fi fi 0 0 M_Wk_cut 25 [(0, .int (nI p)), (1, .ref (8 + 3 * a)), (2, .ref (8 + 3 * o9))] [] h1 Post) → pm_Px l G fi fi 0 0 M_Wk_cut 2 [(3, .int (nI i)), (0, .int (nI p)), (1, .ref (8 + 3 * a)), (2, .ref (8 + 3 * o9))] [] h Post := by
  intro d
  induction d with
  | zero =>
    intro i f h H F iv hd9 K
    have bo := hW.2.2.2.2.1 o9 ho
    have ba := hW.2.2.2.2.1 a ha
    have t_a : h[8 + 3 * a]? = some (pm_Ob 2 [.ref (9 + 3 * a), .int (nI (gT S a 0)), .int (nI (gT S a 1)), .int (nI (gT S a 2))]) := (H.2.2.2.2.2.2.1 a ha).2.1
    have t_o9 : h[8 + 3 * o9]? = some (pm_Ob 2 [.ref (9 + 3 * o9), .int (nI (gT S o9 0)), .int (nI (gT S o9 1)), .int (nI (gT S o9 2))]) := (H.2.2.2.2.2.2.1 o9 ho).2.1
    have ej : i = gT S o9 1 := by omega
    refine px (fun _ => pm_iload_n (pc := 2) d_Wk_cut_2 rfl) ?_
    refine px (fun _ => pm_aload_n (pc := 3) d_Wk_cut_3 rfl) ?_
    refine px (fun _ => pm_getf fl_Wk_53 (pc := 4) d_Wk_cut_4 t_o9 rfl) ?_
    refine pxb (fun _ => pm_icmp_ge (pc := 7) (tgt := 25) d_Wk_cut_7 (by decide)) (fun c_1 => ?_) (fun c_1 => absurd (by rw [ej]; exact (nI_leI (a := gT S o9 1) (b := gT S o9 1) (by omega) (by omega)).mpr (Nat.le_refl _)) c_1)
    refine pxd [1, 2, 3] rfl ?_
    exact K f h H F (by rw [ej] at iv; exact iv)
  | succ d ih =>
    intro i f h H F iv hd9 K
    have bo := hW.2.2.2.2.1 o9 ho
    have ba := hW.2.2.2.2.1 a ha
    have t_a : h[8 + 3 * a]? = some (pm_Ob 2 [.ref (9 + 3 * a), .int (nI (gT S a 0)), .int (nI (gT S a 1)), .int (nI (gT S a 2))]) := (H.2.2.2.2.2.2.1 a ha).2.1
    have t_o9 : h[8 + 3 * o9]? = some (pm_Ob 2 [.ref (9 + 3 * o9), .int (nI (gT S o9 0)), .int (nI (gT S o9 1)), .int (nI (gT S o9 2))]) := (H.2.2.2.2.2.2.1 o9 ho).2.1
    have hi : i < gT S o9 1 := by omega
    refine px (fun _ => pm_iload_n (pc := 2) d_Wk_cut_2 rfl) ?_
    refine px (fun _ => pm_aload_n (pc := 3) d_Wk_cut_3 rfl) ?_
    refine px (fun _ => pm_getf fl_Wk_53 (pc := 4) d_Wk_cut_4 t_o9 rfl) ?_
    refine pxb (fun _ => pm_icmp_ge (pc := 7) (tgt := 25) d_Wk_cut_7 (by decide)) (fun c_1 => absurd c_1 (fun q => absurd ((nI_leI (a := gT S o9 1) (b := i) (by omega) (by omega)).mp q) (by omega))) (fun c_1 => ?_)
    refine px (fun _ => pm_aload_n (pc := 10) d_Wk_cut_10 rfl) ?_
    refine px (fun _ => pm_iload_n (pc := 11) d_Wk_cut_11 rfl) ?_
    refine px (fun _ => pm_iload_n (pc := 12) d_Wk_cut_12 rfl) ?_
    refine px (fun _ => pm_iaddN (a := p) (b := i) (pc := 13) d_Wk_cut_13) ?_
    refine px (fun _ => pm_aload_n (pc := 14) d_Wk_cut_14 rfl) ?_
    refine px (fun _ => pm_iload_n (pc := 15) d_Wk_cut_15 rfl) ?_
    obtain ⟨⟨o2, h2⟩, ⟨e2, f2, H2, F2, R2⟩, en2⟩ := w_crow (l := l) (G := G) (fi := fi) (q := (p + i)) (z := i) hl H hW ho ha na (by omega) (by omega)
    dsimp only at e2 H2 F2
    subst e2
    refine px (fun _ => k_Wk_cut_16 (kc1 := 0) (ks1 := 0) (kc := 0) (ks := 0) (av := [.ref (8 + 3 * a), .int (nI (p + i)), .ref (8 + 3 * o9), .int (nI i)]) (st := []) (en2) rfl rfl (Nat.le_of_ble_eq_true rfl)) ?_
    refine px (fun _ => pm_iinc (x := nI i) (v := nI (i + 1)) (lv' := [(3, .int (nI (i + 1))), (0, .int (nI p)), (1, .ref (8 + 3 * a)), (2, .ref (8 + 3 * o9))]) (pc := 19) d_Wk_cut_19 rfl (nI_1 _) (by decide) rfl) ?_
    refine px (fun _ => pm_goto (tgt := 2) (pc := 22) d_Wk_cut_22 (by decide)) ?_
    refine pxd [0, 1, 2, 3] rfl ?_
    exact ih (i + 1) _ _ H2 (F.tr (F2)) (g_rinv.inv iv R2 (by omega) (fun y hy => rfl)) (by omega) K
set_option maxHeartbeats 4000000 in
set_option maxRecDepth 20000 in
theorem w_cut {l : Launch} {G : pm_G} {fi : Bool} {h : pm_H} {S : gS} {a o9 p : Nat} (hl : l.stackTraces = false) (H : gH S h) (hW : gW S) (ho : o9 < 20) (ha : a < 20) (na : a ≠ o9) (hp : p + gT S o9 1 ≤ 4) (sc : gT S o9 2 = gT S a 2) : pm_Cn l G fi fi 0 0 M_Wk_cut [.int (nI p), .ref (8 + 3 * a), .ref (8 + 3 * o9)] h (g_Pw S o9 h (fun x y => gC S a ((p + x) * 4 + y)) (gT S o9 1) (gT S o9 2) (.inl none)) := by
  refine pm_Cn.of hl (by decide) (Nat.le_of_ble_eq_true rfl) ?_
  have bo := hW.2.2.2.2.1 o9 ho
  refine px (fun _ => pm_iconst (v := 0) (pc := 0) d_Wk_cut_0 rfl) ?_
  refine px (fun _ => pm_istore_n (lv' := [(3, .int (0)), (0, .int (nI p)), (1, .ref (8 + 3 * a)), (2, .ref (8 + 3 * o9))]) (pc := 1) d_Wk_cut_1 (by decide) rfl) ?_
  refine lq_cut1 hl hW ho ha na hp (gT S o9 1) 0 (gC S o9) h (by rw [gsC_self]; exact H) (gFr.rf h) g_inv.z (by omega) (fun f2 h2 H2 F2 iv2 => ?_)
  exact pxr (pm_vret (pc := 25) d_Wk_cut_25 rfl) ⟨rfl, f2, H2, F2, by rw [sc]; exact iv2⟩
def g_rw (ra : Nat) (v : Int32) : Int32 := if 0 ≤ v then v else nI ra + v
abbrev g_inR (S : gS) (a b x : Nat) : Prop := ¬ g_rw (gT S a 1) (FP.d2i (gC S b (0 * 4 + x))) < 0 ∧ ¬ nI (gT S a 1) ≤ g_rw (gT S a 1) (FP.d2i (gC S b (0 * 4 + x)))
abbrev g_pe (S : gS) (a b : Nat) : Nat → Nat → UInt64 := fun x y => gC S a (iN (g_rw (gT S a 1) (FP.d2i (gC S b (0 * 4 + x)))) * 4 + y)
theorem g_in_lt {ra : Nat} {r : Int32} (hra : ra ≤ 4) (h : ¬ r < 0 ∧ ¬ nI ra ≤ r) : r = nI (iN r) ∧ iN r < ra := by
  have e := nI_iN h.1
  refine ⟨e, ?_⟩
  have h1 : ¬ (nI ra).toInt ≤ r.toInt := fun q => h.2 (Int32.le_iff_toInt_le.mpr q)
  have h2 : ¬ r.toInt < 0 := fun q => h.1 (Int32.lt_iff_toInt_lt.mpr q)
  rw [nI_toInt (by omega)] at h1
  simp only [iN]; omega
set_option maxHeartbeats 4000000 in
set_option maxRecDepth 20000 in
theorem lq_pick1 {l : Launch} {G : pm_G} {fi : Bool} {S : gS} {h0 : pm_H} {Post : pm_O × pm_H → Prop} {a b o9 : Nat} (hl : l.stackTraces = false) (hW : gW S) (ho : o9 < 20) (ha : a < 20) (na : a ≠ o9) (hb : b < 20) (nb : b ≠ o9) (sb : gT S o9 1 = gT S b 2) (KB : ∀ (i : Nat) (f : Nat → UInt64) (h : pm_H), gH (gsC S o9 f) h → gFr h0 h → i < gT S o9 1 → ¬ g_inR S a b i → Post (.inl (some (.int 2)), h)) : ∀ (d i : Nat) (f : Nat → UInt64) (h : pm_H), gH (gsC S o9 f) h → gFr h0 h → (g_inv (g_pe S a b) (gT S a 2) f (i) 0 ∧ ∀ x, x < i → g_inR S a b x) → i + d = gT S o9 1 → (∀ f1 h1, gH (gsC S o9 f1) h1 → gFr h0 h1 → (g_inv (g_pe S a b) (gT S a 2) f1 (gT S o9 1) 0 ∧ ∀ x, x < gT S o9 1 → g_inR S a b x) → pm_Px l G fi fi 0 0 M_Wk_pick 64 [(0, .ref (8 + 3 * a)), (1, .ref (8 + 3 * b)), (2, .ref (8 + 3 * o9))] [] h1 Post) → pm_Px l G fi fi 0 0 M_Wk_pick 2 [(3, .int (nI i)), (0, .ref (8 + 3 * a)), (1, .ref (8 + 3 * b)), (2, .ref (8 + 3 * o9))] [] h Post := by
  intro d
  induction d with
  | zero =>
    intro i f h H F iv hd9 K
    have bo := hW.2.2.2.2.1 o9 ho
    have ba := hW.2.2.2.2.1 a ha
    have bb := hW.2.2.2.2.1 b hb
    have t_a : h[8 + 3 * a]? = some (pm_Ob 2 [.ref (9 + 3 * a), .int (nI (gT S a 0)), .int (nI (gT S a 1)), .int (nI (gT S a 2))]) := (H.2.2.2.2.2.2.1 a ha).2.1
    have t_b : h[8 + 3 * b]? = some (pm_Ob 2 [.ref (9 + 3 * b), .int (nI (gT S b 0)), .int (nI (gT S b 1)), .int (nI (gT S b 2))]) := (H.2.2.2.2.2.2.1 b hb).2.1
    have t_o9 : h[8 + 3 * o9]? = some (pm_Ob 2 [.ref (9 + 3 * o9), .int (nI (gT S o9 0)), .int (nI (gT S o9 1)), .int (nI (gT S o9 2))]) := (H.2.2.2.2.2.2.1 o9 ho).2.1
    have ej : i = gT S o9 1 := by omega
    refine px (fun _ => pm_iload_n (pc := 2) d_Wk_pick_2 rfl) ?_
    refine px (fun _ => pm_aload_n (pc := 3) d_Wk_pick_3 rfl) ?_
    refine px (fun _ => pm_getf fl_Wk_53 (pc := 4) d_Wk_pick_4 t_o9 rfl) ?_
    refine pxb (fun _ => pm_icmp_ge (pc := 7) (tgt := 64) d_Wk_pick_7 (by decide)) (fun c_1 => ?_) (fun c_1 => absurd (by rw [ej]; exact (nI_leI (a := gT S o9 1) (b := gT S o9 1) (by omega) (by omega)).mpr (Nat.le_refl _)) c_1)
    refine pxd [1, 2, 3] rfl ?_
    exact K f h H F (by rw [ej] at iv; exact iv)
  | succ d ih =>
    intro i f h H F iv hd9 K
    have bo := hW.2.2.2.2.1 o9 ho
    have ba := hW.2.2.2.2.1 a ha
    have bb := hW.2.2.2.2.1 b hb
    have t_a : h[8 + 3 * a]? = some (pm_Ob 2 [.ref (9 + 3 * a), .int (nI (gT S a 0)), .int (nI (gT S a 1)), .int (nI (gT S a 2))]) := (H.2.2.2.2.2.2.1 a ha).2.1
    have t_b : h[8 + 3 * b]? = some (pm_Ob 2 [.ref (9 + 3 * b), .int (nI (gT S b 0)), .int (nI (gT S b 1)), .int (nI (gT S b 2))]) := (H.2.2.2.2.2.2.1 b hb).2.1
    have t_o9 : h[8 + 3 * o9]? = some (pm_Ob 2 [.ref (9 + 3 * o9), .int (nI (gT S o9 0)), .int (nI (gT S o9 1)), .int (nI (gT S o9 2))]) := (H.2.2.2.2.2.2.1 o9 ho).2.1
    have hi : i < gT S o9 1 := by omega
    refine px (fun _ => pm_iload_n (pc := 2) d_Wk_pick_2 rfl) ?_
    refine px (fun _ => pm_aload_n (pc := 3) d_Wk_pick_3 rfl) ?_
    refine px (fun _ => pm_getf fl_Wk_53 (pc := 4) d_Wk_pick_4 t_o9 rfl) ?_
    refine pxb (fun _ => pm_icmp_ge (pc := 7) (tgt := 64) d_Wk_pick_7 (by decide)) (fun c_1 => absurd c_1 (fun q => absurd ((nI_leI (a := gT S o9 1) (b := i) (by omega) (by omega)).mp q) (by omega))) (fun c_1 => ?_)
    refine px (fun _ => pm_aload_n (pc := 10) d_Wk_pick_10 rfl) ?_
    refine px (fun _ => pm_iconst (v := 0) (pc := 11) d_Wk_pick_11 rfl) ?_
    refine px (fun _ => pm_iload_n (pc := 12) d_Wk_pick_12 rfl) ?_
    refine px (fun _ => k_Wk_pick_13 (kc1 := 0) (ks1 := 0) (kc := 0) (ks := 0) (av := [.int (0), .int (nI i)]) (st := []) t_b (c_atf (i := 0) (j := i) hl H hb nb (by omega) (by omega)) rfl rfl (Nat.le_of_ble_eq_true rfl)) ?_
    refine px (fun _ => pm_d2i (pc := 16) d_Wk_pick_16) ?_
    refine px (fun _ => pm_istore (lv' := [(4, .int ((FP.d2i (gC S b (0 * 4 + i))))), (3, .int (nI i)), (0, .ref (8 + 3 * a)), (1, .ref (8 + 3 * b)), (2, .ref (8 + 3 * o9))]) (pc := 17) d_Wk_pick_17 (by decide) rfl) ?_
    refine px (fun _ => pm_iload (pc := 19) d_Wk_pick_19 rfl) ?_
    refine pxb (fun _ => pm_if_ge (pc := 21) (tgt := 34) d_Wk_pick_21 (by decide)) (fun c_2 => ?_) (fun c_2 => ?_)
    · refine px (fun _ => pm_iload (pc := 34) d_Wk_pick_34 rfl) ?_
      refine pxd [1, 2, 3, 4] rfl ?_
      have er : g_rw (gT S a 1) (FP.d2i (gC S b (0 * 4 + i))) = (FP.d2i (gC S b (0 * 4 + i))) := if_pos (by assumption)
      rw [← er]
      refine px (fun _ => pm_istore (lv' := [(5, .int (g_rw (gT S a 1) (FP.d2i (gC S b (0 * 4 + i))))), (3, .int (nI i)), (0, .ref (8 + 3 * a)), (1, .ref (8 + 3 * b)), (2, .ref (8 + 3 * o9))]) (pc := 36) d_Wk_pick_36 (by decide) rfl) ?_
      refine px (fun _ => pm_aload_n (pc := 38) d_Wk_pick_38 rfl) ?_
      refine px (fun _ => pm_iload (pc := 39) d_Wk_pick_39 rfl) ?_
      refine px (fun _ => pm_iconst (v := 0) (pc := 41) d_Wk_pick_41 rfl) ?_
      refine px (fun _ => k_Wk_pick_42 (kc1 := 0) (ks1 := 0) (kc := 0) (ks := 0) (av := [.int (g_rw (gT S a 1) (FP.d2i (gC S b (0 * 4 + i)))), .int (0)]) (st := []) t_a (c_Tb_has (i := g_rw (gT S a 1) (FP.d2i (gC S b (0 * 4 + i)))) (j := 0) hl t_a) rfl rfl (Nat.le_of_ble_eq_true rfl)) ?_
      refine pxn (fun _ => pm_if_ne (pc := 45) (tgt := 50) d_Wk_pick_45 (by decide)) (fun c_3 => ?_) (fun c_3 => ?_)
      · have n_c_3 : ¬ g_rw (gT S a 1) (FP.d2i (gC S b (0 * 4 + i))) < 0 ∧ ¬ nI (gT S a 1) ≤ g_rw (gT S a 1) (FP.d2i (gC S b (0 * 4 + i))) ∧ ¬ (0 : Int32) < 0 ∧ ¬ nI (gT S a 2) ≤ 0 := Decidable.byContradiction fun q => c_3 (g_if0.mpr q)
        have gi : g_inR S a b i := ⟨n_c_3.1, n_c_3.2.1⟩
        obtain ⟨gr, gl⟩ := g_in_lt (by omega) gi
        refine px (fun _ => pm_aload_n (pc := 50) d_Wk_pick_50 rfl) ?_
        refine px (fun _ => pm_iload (pc := 51) d_Wk_pick_51 rfl) ?_
        refine px (fun _ => pm_aload_n (pc := 53) d_Wk_pick_53 rfl) ?_
        refine px (fun _ => pm_iload_n (pc := 54) d_Wk_pick_54 rfl) ?_
        obtain ⟨⟨o4, h4⟩, ⟨e4, f4, H4, F4, R4⟩, en4⟩ := w_crow (l := l) (G := G) (fi := fi) (q := (iN (g_rw (gT S a 1) (FP.d2i (gC S b (0 * 4 + i)))))) (z := i) hl H hW ho ha na (by omega) (by omega)
        dsimp only at e4 H4 F4
        subst e4
        rw [← gr] at en4
        refine px (fun _ => k_Wk_pick_55 (kc1 := 0) (ks1 := 0) (kc := 0) (ks := 0) (av := [.ref (8 + 3 * a), .int (g_rw (gT S a 1) (FP.d2i (gC S b (0 * 4 + i)))), .ref (8 + 3 * o9), .int (nI i)]) (st := []) (en4) rfl rfl (Nat.le_of_ble_eq_true rfl)) ?_
        refine px (fun _ => pm_iinc (x := nI i) (v := nI (i + 1)) (lv' := [(3, .int (nI (i + 1))), (5, .int (g_rw (gT S a 1) (FP.d2i (gC S b (0 * 4 + i))))), (0, .ref (8 + 3 * a)), (1, .ref (8 + 3 * b)), (2, .ref (8 + 3 * o9))]) (pc := 58) d_Wk_pick_58 rfl (nI_1 _) (by decide) rfl) ?_
        refine px (fun _ => pm_goto (tgt := 2) (pc := 61) d_Wk_pick_61 (by decide)) ?_
        refine pxd [0, 2, 3, 4] rfl ?_
        exact ih (i + 1) _ _ H4 (F.tr (F4)) (⟨g_rinv.inv iv.1 R4 (by omega) (fun y hy => rfl), fun x hx => (Nat.lt_or_eq_of_le (Nat.lt_succ_iff.mp hx)).elim (fun q => iv.2 x q) (fun q => q ▸ gi)⟩) (by omega) K
      · have n_c_3 : ¬ (¬ g_rw (gT S a 1) (FP.d2i (gC S b (0 * 4 + i))) < 0 ∧ ¬ nI (gT S a 1) ≤ g_rw (gT S a 1) (FP.d2i (gC S b (0 * 4 + i))) ∧ ¬ (0 : Int32) < 0 ∧ ¬ nI (gT S a 2) ≤ 0) := g_if0.mp c_3
        refine px (fun _ => pm_iconst (v := 2) (pc := 48) d_Wk_pick_48 rfl) ?_
        exact pxr (pm_iret (pc := 49) d_Wk_pick_49 rfl rfl) (KB i f h H F hi (fun q => n_c_3 ⟨q.1, q.2, by decide, fun q9 => absurd ((nI_leI (a := gT S a 2) (b := 0) (by omega) (by omega)).mp q9) (by omega)⟩))
    · refine px (fun _ => pm_aload_n (pc := 24) d_Wk_pick_24 rfl) ?_
      refine px (fun _ => pm_getf fl_Wk_53 (pc := 25) d_Wk_pick_25 t_a rfl) ?_
      refine px (fun _ => pm_iload (pc := 28) d_Wk_pick_28 rfl) ?_
      refine px (fun _ => pm_iadd (pc := 30) d_Wk_pick_30) ?_
      refine px (fun _ => pm_goto (tgt := 36) (pc := 31) d_Wk_pick_31 (by decide)) ?_
      refine pxd [1, 2, 3, 4] rfl ?_
      have er : g_rw (gT S a 1) (FP.d2i (gC S b (0 * 4 + i))) = (nI (gT S a 1) + (FP.d2i (gC S b (0 * 4 + i)))) := if_neg (by assumption)
      rw [← er]
      refine px (fun _ => pm_istore (lv' := [(5, .int (g_rw (gT S a 1) (FP.d2i (gC S b (0 * 4 + i))))), (3, .int (nI i)), (0, .ref (8 + 3 * a)), (1, .ref (8 + 3 * b)), (2, .ref (8 + 3 * o9))]) (pc := 36) d_Wk_pick_36 (by decide) rfl) ?_
      refine px (fun _ => pm_aload_n (pc := 38) d_Wk_pick_38 rfl) ?_
      refine px (fun _ => pm_iload (pc := 39) d_Wk_pick_39 rfl) ?_
      refine px (fun _ => pm_iconst (v := 0) (pc := 41) d_Wk_pick_41 rfl) ?_
      refine px (fun _ => k_Wk_pick_42 (kc1 := 0) (ks1 := 0) (kc := 0) (ks := 0) (av := [.int (g_rw (gT S a 1) (FP.d2i (gC S b (0 * 4 + i)))), .int (0)]) (st := []) t_a (c_Tb_has (i := g_rw (gT S a 1) (FP.d2i (gC S b (0 * 4 + i)))) (j := 0) hl t_a) rfl rfl (Nat.le_of_ble_eq_true rfl)) ?_
      refine pxn (fun _ => pm_if_ne (pc := 45) (tgt := 50) d_Wk_pick_45 (by decide)) (fun c_5 => ?_) (fun c_5 => ?_)
      · have n_c_5 : ¬ g_rw (gT S a 1) (FP.d2i (gC S b (0 * 4 + i))) < 0 ∧ ¬ nI (gT S a 1) ≤ g_rw (gT S a 1) (FP.d2i (gC S b (0 * 4 + i))) ∧ ¬ (0 : Int32) < 0 ∧ ¬ nI (gT S a 2) ≤ 0 := Decidable.byContradiction fun q => c_5 (g_if0.mpr q)
        have gi : g_inR S a b i := ⟨n_c_5.1, n_c_5.2.1⟩
        obtain ⟨gr, gl⟩ := g_in_lt (by omega) gi
        refine px (fun _ => pm_aload_n (pc := 50) d_Wk_pick_50 rfl) ?_
        refine px (fun _ => pm_iload (pc := 51) d_Wk_pick_51 rfl) ?_
        refine px (fun _ => pm_aload_n (pc := 53) d_Wk_pick_53 rfl) ?_
        refine px (fun _ => pm_iload_n (pc := 54) d_Wk_pick_54 rfl) ?_
        obtain ⟨⟨o6, h6⟩, ⟨e6, f6, H6, F6, R6⟩, en6⟩ := w_crow (l := l) (G := G) (fi := fi) (q := (iN (g_rw (gT S a 1) (FP.d2i (gC S b (0 * 4 + i)))))) (z := i) hl H hW ho ha na (by omega) (by omega)
        dsimp only at e6 H6 F6
        subst e6
        rw [← gr] at en6
        refine px (fun _ => k_Wk_pick_55 (kc1 := 0) (ks1 := 0) (kc := 0) (ks := 0) (av := [.ref (8 + 3 * a), .int (g_rw (gT S a 1) (FP.d2i (gC S b (0 * 4 + i)))), .ref (8 + 3 * o9), .int (nI i)]) (st := []) (en6) rfl rfl (Nat.le_of_ble_eq_true rfl)) ?_
        refine px (fun _ => pm_iinc (x := nI i) (v := nI (i + 1)) (lv' := [(3, .int (nI (i + 1))), (5, .int (g_rw (gT S a 1) (FP.d2i (gC S b (0 * 4 + i))))), (0, .ref (8 + 3 * a)), (1, .ref (8 + 3 * b)), (2, .ref (8 + 3 * o9))]) (pc := 58) d_Wk_pick_58 rfl (nI_1 _) (by decide) rfl) ?_
        refine px (fun _ => pm_goto (tgt := 2) (pc := 61) d_Wk_pick_61 (by decide)) ?_
        refine pxd [0, 2, 3, 4] rfl ?_
        exact ih (i + 1) _ _ H6 (F.tr (F6)) (⟨g_rinv.inv iv.1 R6 (by omega) (fun y hy => rfl), fun x hx => (Nat.lt_or_eq_of_le (Nat.lt_succ_iff.mp hx)).elim (fun q => iv.2 x q) (fun q => q ▸ gi)⟩) (by omega) K
      · have n_c_5 : ¬ (¬ g_rw (gT S a 1) (FP.d2i (gC S b (0 * 4 + i))) < 0 ∧ ¬ nI (gT S a 1) ≤ g_rw (gT S a 1) (FP.d2i (gC S b (0 * 4 + i))) ∧ ¬ (0 : Int32) < 0 ∧ ¬ nI (gT S a 2) ≤ 0) := g_if0.mp c_5
        refine px (fun _ => pm_iconst (v := 2) (pc := 48) d_Wk_pick_48 rfl) ?_
        exact pxr (pm_iret (pc := 49) d_Wk_pick_49 rfl rfl) (KB i f h H F hi (fun q => n_c_5 ⟨q.1, q.2, by decide, fun q9 => absurd ((nI_leI (a := gT S a 2) (b := 0) (by omega) (by omega)).mp q9) (by omega)⟩))
set_option maxHeartbeats 4000000 in
set_option maxRecDepth 20000 in
theorem w_pick {l : Launch} {G : pm_G} {fi : Bool} {h : pm_H} {S : gS} {a b o9 : Nat} (hl : l.stackTraces = false) (H : gH S h) (hW : gW S) (ho : o9 < 20) (ha : a < 20) (na : a ≠ o9) (hb : b < 20) (nb : b ≠ o9) (sb : gT S o9 1 = gT S b 2) (sc : gT S o9 2 = gT S a 2) : pm_Cn l G fi fi 0 0 M_Wk_pick [.ref (8 + 3 * a), .ref (8 + 3 * b), .ref (8 + 3 * o9)] h (fun r => ∃ f, gH (gsC S o9 f) r.2 ∧ gFr h r.2 ∧ (r.1 = .inl (some (.int 0)) ∧ g_inv (g_pe S a b) (gT S o9 2) f (gT S o9 1) 0 ∧ (∀ x, x < gT S o9 1 → g_inR S a b x) ∨ r.1 = .inl (some (.int 2)) ∧ ∃ x, x < gT S o9 1 ∧ ¬ g_inR S a b x)) := by
  refine pm_Cn.of hl (by decide) (Nat.le_of_ble_eq_true rfl) ?_
  have bo := hW.2.2.2.2.1 o9 ho
  refine px (fun _ => pm_iconst (v := 0) (pc := 0) d_Wk_pick_0 rfl) ?_
  refine px (fun _ => pm_istore_n (lv' := [(3, .int (0)), (0, .ref (8 + 3 * a)), (1, .ref (8 + 3 * b)), (2, .ref (8 + 3 * o9))]) (pc := 1) d_Wk_pick_1 (by decide) rfl) ?_
  refine lq_pick1 hl hW ho ha na hb nb sb (fun i f h H F hi q => ⟨f, H, F, Or.inr ⟨rfl, i, hi, q⟩⟩) (gT S o9 1) 0 (gC S o9) h (by rw [gsC_self]; exact H) (gFr.rf h) ⟨g_inv.z, fun x hx => by omega⟩ (by omega) (fun f2 h2 H2 F2 iv2 => ?_)
  refine px (fun _ => pm_iconst (v := 0) (pc := 64) d_Wk_pick_64 rfl) ?_
  exact pxr (pm_iret (pc := 65) d_Wk_pick_65 rfl rfl) ⟨f2, H2, F2, Or.inl ⟨rfl, by rw [sc]; exact iv2.1, iv2.2⟩⟩
set_option maxHeartbeats 4000000 in
set_option maxRecDepth 20000 in
theorem c_isZero {l : Launch} {G : pm_G} {fi : Bool} {h : pm_H} {S : gS} {a : Nat} (hl : l.stackTraces = false) (H : gH S h) (ha : a < 20) : pm_En l G fi fi 0 0 M_Tb_isZero [.ref (8 + 3 * a)] h (.inl (some (.int (if fEq (gC S a (0 * 4 + 0)) FP.dconst0 then 1 else 0))), h) := by
  refine pm_Cn.eq (pm_Cn.of hl (by decide) (Nat.le_of_ble_eq_true rfl) ?_)
  refine px (fun _ => pm_aload_n (pc := 0) d_Tb_isZero_0 rfl) ?_
  refine px (fun _ => pm_iconst (v := 0) (pc := 1) d_Tb_isZero_1 rfl) ?_
  refine px (fun _ => pm_iconst (v := 0) (pc := 2) d_Tb_isZero_2 rfl) ?_
  refine px (fun _ => k_Tb_isZero_3 (kc1 := 0) (ks1 := 0) (kc := 0) (ks := 0) (av := [.int (0), .int (0)]) (st := []) (H.2.2.2.2.2.2.1 a ha).2.1 (c_Tb_at (i := 0) (j := 0) hl (H.2.2.2.2.2.2.1 a ha).2.1 (H.2.2.2.2.2.2.1 a ha).2.2 (by omega) (by omega)) rfl rfl (Nat.le_of_ble_eq_true rfl)) ?_
  refine px (fun _ => pm_dconst0 (pc := 6) d_Tb_isZero_6) ?_
  refine px (fun _ => pm_dcmp (pc := 7) d_Tb_isZero_7) ?_
  refine pxn (fun _ => pm_if_ne (pc := 8) (tgt := 15) d_Tb_isZero_8 (by decide)) (fun c_1 => ?_) (fun c_1 => ?_)
  · refine px (fun _ => pm_iconst (v := 0) (pc := 15) d_Tb_isZero_15 rfl) ?_
    exact pxr (pm_iret (pc := 16) d_Tb_isZero_16 rfl rfl) (by rw [if_neg (by assumption)])
  · refine px (fun _ => pm_iconst (v := 1) (pc := 11) d_Tb_isZero_11 rfl) ?_
    refine px (fun _ => pm_goto (tgt := 16) (pc := 12) d_Tb_isZero_12 (by decide)) ?_
    exact pxr (pm_iret (pc := 16) d_Tb_isZero_16 rfl rfl) (by rw [if_pos (by assumption)])
