/-! ===== the class: isTooLarge ===== -/
abbrev g_big (v : UInt64) : Prop := (0 : Int32) < Op.cmpValue (FP.dcmp v 4741671816366391296) .l ∨ ¬ (0 : Int32) ≤ Op.cmpValue (FP.dcmp v 13965043853221167104) .g
def g_ninv (f0 : Nat → UInt64) (co : Nat) (f : Nat → UInt64) (i j : Nat) : Prop := f = f0 ∧ ∀ x y, y < co → (x < i ∨ x = i ∧ y < j) → ¬ g_big (f0 (x * 4 + y))
theorem g_ninv.row {f0 f : Nat → UInt64} {co i : Nat} (h : g_ninv f0 co f i co) : g_ninv f0 co f (i + 1) 0 := ⟨h.1, fun x y hy q => h.2 x y hy (by omega)⟩
theorem g_ninv.step {f0 f : Nat → UInt64} {co i j : Nat} (h : g_ninv f0 co f i j) (h1 : ¬ (0 : Int32) < Op.cmpValue (FP.dcmp (f (i * 4 + j)) 4741671816366391296) .l) (h2 : (0 : Int32) ≤ Op.cmpValue (FP.dcmp (f (i * 4 + j)) 13965043853221167104) .g) : g_ninv f0 co f i (j + 1) := by
  refine ⟨h.1, fun x y hy q => ?_⟩
  by_cases e : x = i ∧ y = j
  · rw [e.1, e.2, ← h.1]
    exact fun q => q.elim h1 (fun q => q h2)
  · exact h.2 x y hy (by omega)
set_option maxHeartbeats 4000000 in
set_option maxRecDepth 20000 in
theorem li_big {l : Launch} {G : pm_G} {fi : Bool} {S : gS} {h0 : pm_H} {Post : pm_O × pm_H → Prop} {o9 : Nat} {f0 : Nat → UInt64} (hl : l.stackTraces = false) (hW : gW S) (ho : o9 < 20) (ty : gT S o9 0 = 0) (KB : ∀ (i j : Nat) (f : Nat → UInt64) (h : pm_H), gH (gsC S o9 f) h → gFr h0 h → f = f0 → i < gT S o9 1 → j < gT S o9 2 → g_big (f (i * 4 + j)) → Post (.inl (some (.int 1)), h)) : ∀ (d i j : Nat) (f : Nat → UInt64) (h : pm_H), gH (gsC S o9 f) h → gFr h0 h → g_ninv f0 (gT S o9 2) f (i) (j) → i < gT S o9 1 → j + d = gT S o9 2 → (∀ f1 h1, gH (gsC S o9 f1) h1 → gFr h0 h1 → g_ninv f0 (gT S o9 2) f1 ((i + 1)) (0) → pm_Px l G fi fi 0 0 M_Tb_isTooLarge 2 [(1, .int (nI (i + 1))), (0, .ref (8 + 3 * o9))] [] h1 Post) → pm_Px l G fi fi 0 0 M_Tb_isTooLarge 19 [(2, .int (nI j)), (1, .int (nI i)), (0, .ref (8 + 3 * o9))] [] h Post := by
  intro d
  induction d with
  | zero =>
    intro i j f h H F iv hi hd9 K
    have bo := hW.2.2.2.2.1 o9 ho
    have t_o9 : h[8 + 3 * o9]? = some (pm_Ob 2 [.ref (9 + 3 * o9), .int (nI (gT S o9 0)), .int (nI (gT S o9 1)), .int (nI (gT S o9 2))]) := (H.2.2.2.2.2.2.1 o9 ho).2.1
    have ej : j = gT S o9 2 := by omega
    refine px (fun _ => pm_iload_n (pc := 19) d_Tb_isTooLarge_19 rfl) ?_
    refine px (fun _ => pm_aload_n (pc := 20) d_Tb_isTooLarge_20 rfl) ?_
    refine px (fun _ => pm_getf fl_Tb_22 (pc := 21) d_Tb_isTooLarge_21 t_o9 rfl) ?_
    refine pxb (fun _ => pm_icmp_ge (pc := 24) (tgt := 61) d_Tb_isTooLarge_24 (by decide)) (fun c_1 => ?_) (fun c_1 => absurd (by rw [ej]; exact (nI_leI (a := gT S o9 2) (b := gT S o9 2) (by omega) (by omega)).mpr (Nat.le_refl _)) c_1)
    refine px (fun _ => pm_iinc (x := nI i) (v := nI (i + 1)) (lv' := [(1, .int (nI (i + 1))), (2, .int (nI j)), (0, .ref (8 + 3 * o9))]) (pc := 61) d_Tb_isTooLarge_61 rfl (nI_1 _) (by decide) rfl) ?_
    refine px (fun _ => pm_goto (tgt := 2) (pc := 64) d_Tb_isTooLarge_64 (by decide)) ?_
    refine pxd [0, 2] rfl ?_
    exact K f h H F (by rw [ej] at iv; exact iv.row)
  | succ d ih =>
    intro i j f h H F iv hi hd9 K
    have bo := hW.2.2.2.2.1 o9 ho
    have t_o9 : h[8 + 3 * o9]? = some (pm_Ob 2 [.ref (9 + 3 * o9), .int (nI (gT S o9 0)), .int (nI (gT S o9 1)), .int (nI (gT S o9 2))]) := (H.2.2.2.2.2.2.1 o9 ho).2.1
    have hj : j < gT S o9 2 := by omega
    refine px (fun _ => pm_iload_n (pc := 19) d_Tb_isTooLarge_19 rfl) ?_
    refine px (fun _ => pm_aload_n (pc := 20) d_Tb_isTooLarge_20 rfl) ?_
    refine px (fun _ => pm_getf fl_Tb_22 (pc := 21) d_Tb_isTooLarge_21 t_o9 rfl) ?_
    refine pxb (fun _ => pm_icmp_ge (pc := 24) (tgt := 61) d_Tb_isTooLarge_24 (by decide)) (fun c_1 => absurd c_1 (fun q => absurd ((nI_leI (a := gT S o9 2) (b := j) (by omega) (by omega)).mp q) (by omega))) (fun c_1 => ?_)
    refine px (fun _ => pm_aload_n (pc := 27) d_Tb_isTooLarge_27 rfl) ?_
    refine px (fun _ => pm_iload_n (pc := 28) d_Tb_isTooLarge_28 rfl) ?_
    refine px (fun _ => pm_iload_n (pc := 29) d_Tb_isTooLarge_29 rfl) ?_
    refine px (fun _ => k_Tb_isTooLarge_30 (kc1 := 0) (ks1 := 0) (kc := 0) (ks := 0) (av := [.int (nI i), .int (nI j)]) (st := []) t_o9 (c_ato (i := i) (j := j) hl H ho (by omega) (by omega)) rfl rfl (Nat.le_of_ble_eq_true rfl)) ?_
    refine px (fun _ => pm_ldc2d (pc := 33) d_Tb_isTooLarge_33 tw_529) ?_
    refine px (fun _ => pm_dcmp (pc := 36) d_Tb_isTooLarge_36) ?_
    refine pxb (fun _ => pm_if_gt (pc := 37) (tgt := 53) d_Tb_isTooLarge_37 (by decide)) (fun c_2 => ?_) (fun c_2 => ?_)
    · refine px (fun _ => pm_iconst (v := 1) (pc := 53) d_Tb_isTooLarge_53 rfl) ?_
      exact pxr (pm_iret (pc := 54) d_Tb_isTooLarge_54 rfl rfl) (KB i j f h H F iv.1 hi hj (by first | exact Or.inl (by assumption) | exact Or.inr (by assumption)))
    · refine px (fun _ => pm_aload_n (pc := 40) d_Tb_isTooLarge_40 rfl) ?_
      refine px (fun _ => pm_iload_n (pc := 41) d_Tb_isTooLarge_41 rfl) ?_
      refine px (fun _ => pm_iload_n (pc := 42) d_Tb_isTooLarge_42 rfl) ?_
      refine px (fun _ => k_Tb_isTooLarge_43 (kc1 := 0) (ks1 := 0) (kc := 0) (ks := 0) (av := [.int (nI i), .int (nI j)]) (st := []) t_o9 (c_ato (i := i) (j := j) hl H ho (by omega) (by omega)) rfl rfl (Nat.le_of_ble_eq_true rfl)) ?_
      refine px (fun _ => pm_ldc2d (pc := 46) d_Tb_isTooLarge_46 tw_530) ?_
      refine px (fun _ => pm_dcmp (pc := 49) d_Tb_isTooLarge_49) ?_
      refine pxb (fun _ => pm_if_ge (pc := 50) (tgt := 55) d_Tb_isTooLarge_50 (by decide)) (fun c_3 => ?_) (fun c_3 => ?_)
      · refine px (fun _ => pm_iinc (x := nI j) (v := nI (j + 1)) (lv' := [(2, .int (nI (j + 1))), (1, .int (nI i)), (0, .ref (8 + 3 * o9))]) (pc := 55) d_Tb_isTooLarge_55 rfl (nI_1 _) (by decide) rfl) ?_
        refine px (fun _ => pm_goto (tgt := 19) (pc := 58) d_Tb_isTooLarge_58 (by decide)) ?_
        refine pxd [0, 1, 2] rfl ?_
        exact ih i (j + 1) _ _ H (F.tr (gFr.rf _)) (iv.step (by assumption) (by assumption)) hi (by omega) K
      · refine px (fun _ => pm_iconst (v := 1) (pc := 53) d_Tb_isTooLarge_53 rfl) ?_
        exact pxr (pm_iret (pc := 54) d_Tb_isTooLarge_54 rfl rfl) (KB i j f h H F iv.1 hi hj (by first | exact Or.inl (by assumption) | exact Or.inr (by assumption)))
set_option maxHeartbeats 4000000 in
set_option maxRecDepth 20000 in
theorem lo_big {l : Launch} {G : pm_G} {fi : Bool} {S : gS} {h0 : pm_H} {Post : pm_O × pm_H → Prop} {o9 : Nat} {f0 : Nat → UInt64} (hl : l.stackTraces = false) (hW : gW S) (ho : o9 < 20) (ty : gT S o9 0 = 0) (KB : ∀ (i j : Nat) (f : Nat → UInt64) (h : pm_H), gH (gsC S o9 f) h → gFr h0 h → f = f0 → i < gT S o9 1 → j < gT S o9 2 → g_big (f (i * 4 + j)) → Post (.inl (some (.int 1)), h)) : ∀ (d i : Nat) (f : Nat → UInt64) (h : pm_H), gH (gsC S o9 f) h → gFr h0 h → g_ninv f0 (gT S o9 2) f (i) (0) → i + d = gT S o9 1 → (∀ f1 h1, gH (gsC S o9 f1) h1 → gFr h0 h1 → g_ninv f0 (gT S o9 2) f1 (gT S o9 1) (0) → pm_Px l G fi fi 0 0 M_Tb_isTooLarge 67 [(0, .ref (8 + 3 * o9))] [] h1 Post) → pm_Px l G fi fi 0 0 M_Tb_isTooLarge 2 [(1, .int (nI i)), (0, .ref (8 + 3 * o9))] [] h Post := by
  intro d
  induction d with
  | zero =>
    intro i f h H F iv hd9 K
    have bo := hW.2.2.2.2.1 o9 ho
    have t_o9 : h[8 + 3 * o9]? = some (pm_Ob 2 [.ref (9 + 3 * o9), .int (nI (gT S o9 0)), .int (nI (gT S o9 1)), .int (nI (gT S o9 2))]) := (H.2.2.2.2.2.2.1 o9 ho).2.1
    have ej : i = gT S o9 1 := by omega
    refine px (fun _ => pm_iload_n (pc := 2) d_Tb_isTooLarge_2 rfl) ?_
    refine px (fun _ => pm_aload_n (pc := 3) d_Tb_isTooLarge_3 rfl) ?_
    refine px (fun _ => pm_getf fl_Tb_19 (pc := 4) d_Tb_isTooLarge_4 t_o9 rfl) ?_
    refine pxb (fun _ => pm_icmp_ge (pc := 7) (tgt := 67) d_Tb_isTooLarge_7 (by decide)) (fun c_1 => ?_) (fun c_1 => absurd (by rw [ej]; exact (nI_leI (a := gT S o9 1) (b := gT S o9 1) (by omega) (by omega)).mpr (Nat.le_refl _)) c_1)
    refine pxd [1] rfl ?_
    exact K f h H F (by rw [ej] at iv; exact iv)
  | succ d ih =>
    intro i f h H F iv hd9 K
    have bo := hW.2.2.2.2.1 o9 ho
    have t_o9 : h[8 + 3 * o9]? = some (pm_Ob 2 [.ref (9 + 3 * o9), .int (nI (gT S o9 0)), .int (nI (gT S o9 1)), .int (nI (gT S o9 2))]) := (H.2.2.2.2.2.2.1 o9 ho).2.1
    refine px (fun _ => pm_iload_n (pc := 2) d_Tb_isTooLarge_2 rfl) ?_
    refine px (fun _ => pm_aload_n (pc := 3) d_Tb_isTooLarge_3 rfl) ?_
    refine px (fun _ => pm_getf fl_Tb_19 (pc := 4) d_Tb_isTooLarge_4 t_o9 rfl) ?_
    refine pxb (fun _ => pm_icmp_ge (pc := 7) (tgt := 67) d_Tb_isTooLarge_7 (by decide)) (fun c_1 => absurd c_1 (fun q => absurd ((nI_leI (a := gT S o9 1) (b := i) (by omega) (by omega)).mp q) (by omega))) (fun c_1 => ?_)
    refine px (fun _ => pm_aload_n (pc := 10) d_Tb_isTooLarge_10 rfl) ?_
    refine px (fun _ => pm_getf fl_Tb_15 (pc := 11) d_Tb_isTooLarge_11 t_o9 rfl) ?_
    refine pxn (fun _ => pm_if_ne (pc := 14) (tgt := 67) d_Tb_isTooLarge_14 (by decide)) (fun c_2 => absurd (by rw [ty]; rfl) c_2) (fun c_2 => ?_)
    refine px (fun _ => pm_iconst (v := 0) (pc := 17) d_Tb_isTooLarge_17 rfl) ?_
    refine px (fun _ => pm_istore_n (lv' := [(2, .int (0)), (1, .int (nI i)), (0, .ref (8 + 3 * o9))]) (pc := 18) d_Tb_isTooLarge_18 (by decide) rfl) ?_
    refine pxd [0, 1, 2] rfl ?_
    exact li_big hl hW ho ty KB (gT S o9 2) i 0 f h H F iv (by omega) (by omega) (fun f1 h1 a1 a2 a3 => ih (i + 1) f1 h1 a1 a2 a3 (by omega) K)
set_option maxHeartbeats 4000000 in
set_option maxRecDepth 20000 in
theorem c_big {l : Launch} {G : pm_G} {fi : Bool} {h : pm_H} {S : gS} {o9 : Nat} (hl : l.stackTraces = false) (H : gH S h) (hW : gW S) (ho : o9 < 20) : pm_Cn l G fi fi 0 0 M_Tb_isTooLarge [.ref (8 + 3 * o9)] h (fun r => gH S r.2 ∧ gFr h r.2 ∧ (r.1 = .inl (some (.int 0)) ∧ (gT S o9 0 = 0 → ∀ x y, x < gT S o9 1 → y < gT S o9 2 → ¬ g_big (gC S o9 (x * 4 + y))) ∨ r.1 = .inl (some (.int 1)) ∧ gT S o9 0 = 0 ∧ ∃ x y, x < gT S o9 1 ∧ y < gT S o9 2 ∧ g_big (gC S o9 (x * 4 + y)))) := by
  refine pm_Cn.of hl (by decide) (Nat.le_of_ble_eq_true rfl) ?_
  have bo := hW.2.2.2.2.1 o9 ho
  by_cases ty : gT S o9 0 = 0
  · refine px (fun _ => pm_iconst (v := 0) (pc := 0) d_Tb_isTooLarge_0 rfl) ?_
    refine px (fun _ => pm_istore_n (lv' := [(1, .int (0)), (0, .ref (8 + 3 * o9))]) (pc := 1) d_Tb_isTooLarge_1 (by decide) rfl) ?_
    refine lo_big (f0 := gC S o9) hl hW ho ty ?_ (gT S o9 1) 0 (gC S o9) h (by rw [gsC_self]; exact H) (gFr.rf h) ⟨rfl, fun x y _ q => by omega⟩ (by omega) (fun f1 h1 H1 F1 iv => ?_)
    · intro i j f h1 H1 F1 e9 hi hj hb9
      subst e9
      rw [gsC_self] at H1
      exact ⟨H1, F1, Or.inr ⟨rfl, ty, i, j, hi, hj, hb9⟩⟩
    · obtain ⟨e9, iv⟩ := iv
      subst e9
      rw [gsC_self] at H1
      refine px (fun _ => pm_iconst (v := 0) (pc := 67) d_Tb_isTooLarge_67 rfl) ?_
      exact pxr (pm_iret (pc := 68) d_Tb_isTooLarge_68 rfl rfl) ⟨H1, F1, Or.inl ⟨rfl, fun _ x y hx hy => iv x y hy (by omega)⟩⟩
  · refine px (fun _ => pm_iconst (v := 0) (pc := 0) d_Tb_isTooLarge_0 rfl) ?_
    refine px (fun _ => pm_istore_n (lv' := [(1, .int (0)), (0, .ref (8 + 3 * o9))]) (pc := 1) d_Tb_isTooLarge_1 (by decide) rfl) ?_
    refine px (fun _ => pm_iload_n (pc := 2) d_Tb_isTooLarge_2 rfl) ?_
    refine px (fun _ => pm_aload_n (pc := 3) d_Tb_isTooLarge_3 rfl) ?_
    refine px (fun _ => pm_getf fl_Tb_19 (pc := 4) d_Tb_isTooLarge_4 (H.2.2.2.2.2.2.1 o9 ho).2.1 rfl) ?_
    refine pxb (fun _ => pm_icmp_ge (pc := 7) (tgt := 67) d_Tb_isTooLarge_7 (by decide)) (fun c_1 => absurd c_1 (fun q => absurd ((nI_leI (a := gT S o9 1) (b := 0) (by omega) (by omega)).mp q) (by omega))) (fun c_1 => ?_)
    refine px (fun _ => pm_aload_n (pc := 10) d_Tb_isTooLarge_10 rfl) ?_
    refine px (fun _ => pm_getf fl_Tb_15 (pc := 11) d_Tb_isTooLarge_11 (H.2.2.2.2.2.2.1 o9 ho).2.1 rfl) ?_
    refine pxn (fun _ => pm_if_ne (pc := 14) (tgt := 67) d_Tb_isTooLarge_14 (by decide)) (fun c_2 => ?_) (fun c_2 => absurd c_2 (fun q => ty ((nI_eq (a := gT S o9 0) (b := 0) (by omega) (by omega)).mp q)))
    refine px (fun _ => pm_iconst (v := 0) (pc := 67) d_Tb_isTooLarge_67 rfl) ?_
    exact pxr (pm_iret (pc := 68) d_Tb_isTooLarge_68 rfl rfl) ⟨H, gFr.rf h, Or.inl ⟨rfl, fun q => absurd q ty⟩⟩
