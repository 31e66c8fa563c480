/-! ===== the class: divide, multiplyTables, slide ===== -/
def g_invZ (E : Nat → Nat → UInt64) (Z : Nat → Nat → Prop) (co : Nat) (f : Nat → UInt64) (i j : Nat) : Prop := g_inv E co f i j ∧ ∀ x y, y < co → (x < i ∨ x = i ∧ y < j) → Z x y
theorem g_invZ.z {E : Nat → Nat → UInt64} {Z : Nat → Nat → Prop} {co : Nat} {f : Nat → UInt64} : g_invZ E Z co f 0 0 := ⟨g_inv.z, fun x y _ q => by omega⟩
theorem g_invZ.row {E : Nat → Nat → UInt64} {Z : Nat → Nat → Prop} {co i : Nat} {f : Nat → UInt64} (h : g_invZ E Z co f i co) : g_invZ E Z co f (i + 1) 0 := ⟨h.1.row, fun x y hy q => h.2 x y hy (by omega)⟩
theorem g_invZ.step {E : Nat → Nat → UInt64} {Z : Nat → Nat → Prop} {co i j : Nat} {f : Nat → UInt64} {v : UInt64} (h : g_invZ E Z co f i j) (hc : co ≤ 4) (hj : j < co) (hv : v = E i j) (hz : Z i j) : g_invZ E Z co (va_up f (i * 4 + j) v) i (j + 1) := by
  refine ⟨h.1.step hc hj hv, fun x y hy q => ?_⟩
  by_cases e : x = i ∧ y = j
  · rw [e.1, e.2]; exact hz
  · exact h.2 x y hy (by omega)
abbrev g_Pz (S : gS) (o9 : Nat) (h : pm_H) (E : Nat → Nat → UInt64) (Z : Nat → Nat → Prop) (ro co : Nat) : pm_O × pm_H → Prop := fun r => ∃ f, gH (gsC S o9 f) r.2 ∧ gFr h r.2 ∧ (r.1 = .inl (some (.int 0)) ∧ g_invZ E Z co f ro 0 ∨ r.1 = .inl (some (.int 1)) ∧ ∃ x y, x < ro ∧ y < co ∧ ¬ Z x y)
def g_dot (X Y : Nat → UInt64) : Nat → Nat → UInt64 → UInt64
  | 0, _, acc => acc
  | d + 1, k, acc => g_dot X Y d (k + 1) (FP.dadd acc (FP.dmul (X k) (Y k)))
theorem g_dot_ok {acc x y : UInt64} {k : Nat} (hk : k < 4) (ha : acc.toNat % 2 ^ 63 < (1090 + 2 * k) * 2 ^ 52) (hx : gB x) (hy : gB y) : vf_n64 (FP.dmul x y) ∧ vf_n64 (FP.dadd acc (FP.dmul x y)) ∧ (FP.dadd acc (FP.dmul x y)).toNat % 2 ^ 63 < (1090 + 2 * (k + 1)) * 2 ^ 52 := by
  have h1 : (FP.dmul x y).toNat % 2 ^ 63 < (1056 + 1056 - 1025 + 3) * 2 ^ 52 := FP.Core.dmul_mag hx hy (by omega) (by omega)
  have h2 : (FP.dadd acc (FP.dmul x y)).toNat % 2 ^ 63 < (1090 + 2 * k + 2) * 2 ^ 52 := FP.Core.dadd_mag ha (Nat.lt_of_lt_of_le h1 (Nat.mul_le_mul_right _ (by omega))) (by omega)
  exact ⟨g_n64 (by omega), g_n64 (Nat.lt_of_lt_of_le h2 (Nat.mul_le_mul_right _ (by omega))), Nat.lt_of_lt_of_le h2 (Nat.mul_le_mul_right _ (by omega))⟩
theorem g_hasN {m q c : Nat} (hm : m < 16) (hq : q < 16) (hc : c < 16) (h : ¬ (q ≤ m ∧ m - q < c)) (h1 : ¬ nI m - nI q < 0) (h2 : ¬ nI c ≤ nI m - nI q) : False := by
  by_cases hq9 : q ≤ m
  · rw [pk_sub hq9] at h2
    exact h2 ((nI_leI (a := c) (b := m - q) (by omega) (by omega)).mpr (by omega))
  · exact h1 (g_subneg m hm q hq (by omega))
theorem g_B0 : gB FP.dconst0 := by decide
set_option maxHeartbeats 4000000 in
set_option maxRecDepth 20000 in
theorem lpi_div {l : Launch} {G : pm_G} {fi : Bool} {S : gS} {h0 : pm_H} {a b o9 : Nat} (hl : l.stackTraces = false) (hW : gW S) (ho : o9 < 20) (ha : a < 20) (na : a ≠ o9) (hb : b < 20) (nb : b ≠ o9) (hne : ∀ x y, x < gT S o9 1 → y < gT S o9 2 → ¬ gT S a 0 = 1 → ¬ fEq (g_ag S b x y) FP.dconst0 → vf_n64 (FP.ddiv (g_ag S a x y) (g_ag S b x y))) : ∀ (d i j : Nat) (f : Nat → UInt64) (h : pm_H), gH (gsC S o9 f) h → gFr h0 h → g_invZ (fun x y => if gT S a 0 = 1 then FP.i2d (g_dv (FP.d2i (g_ag S a x y)) (FP.d2i (g_ag S b x y))) else FP.ddiv (g_ag S a x y) (g_ag S b x y)) (fun x y => ¬ fEq (g_ag S b x y) FP.dconst0) (gT S o9 2) f (i) (j) → i < gT S o9 1 → j + d = gT S o9 2 → (∀ f1 h1, gH (gsC S o9 f1) h1 → gFr h0 h1 → g_invZ (fun x y => if gT S a 0 = 1 then FP.i2d (g_dv (FP.d2i (g_ag S a x y)) (FP.d2i (g_ag S b x y))) else FP.ddiv (g_ag S a x y) (g_ag S b x y)) (fun x y => ¬ fEq (g_ag S b x y) FP.dconst0) (gT S o9 2) f1 (i + 1) (0) → pm_Px l G fi fi 0 0 M_Wk_divide 2 [(3, .int (nI (i + 1))), (0, .ref (8 + 3 * a)), (1, .ref (8 + 3 * b)), (2, .ref (8 + 3 * o9))] [] h1 (g_Pz S o9 h0 (fun x y => if gT S a 0 = 1 then FP.i2d (g_dv (FP.d2i (g_ag S a x y)) (FP.d2i (g_ag S b x y))) else FP.ddiv (g_ag S a x y) (g_ag S b x y)) (fun x y => ¬ fEq (g_ag S b x y) FP.dconst0) (gT S o9 1) (gT S o9 2))) → pm_Px l G fi fi 0 0 M_Wk_divide 13 [(4, .int (nI j)), (3, .int (nI i)), (0, .ref (8 + 3 * a)), (1, .ref (8 + 3 * b)), (2, .ref (8 + 3 * o9))] [] h (g_Pz S o9 h0 (fun x y => if gT S a 0 = 1 then FP.i2d (g_dv (FP.d2i (g_ag S a x y)) (FP.d2i (g_ag S b x y))) else FP.ddiv (g_ag S a x y) (g_ag S b x y)) (fun x y => ¬ fEq (g_ag S b x y) FP.dconst0) (gT S o9 1) (gT S o9 2)) := by
  intro d
  induction d with
  | zero =>
    intro i j f h H F iv hi hd9 K
    have bo := hW.2.2.2.2.1 o9 ho
    have ba := hW.2.2.2.2.1 a ha
    have t_a : h[8 + 3 * a]? = some (pm_Ob 2 [.ref (9 + 3 * a), .int (nI (gT S a 0)), .int (nI (gT S a 1)), .int (nI (gT S a 2))]) := (H.2.2.2.2.2.2.1 a ha).2.1
    have t_b : h[8 + 3 * b]? = some (pm_Ob 2 [.ref (9 + 3 * b), .int (nI (gT S b 0)), .int (nI (gT S b 1)), .int (nI (gT S b 2))]) := (H.2.2.2.2.2.2.1 b hb).2.1
    have t_o9 : h[8 + 3 * o9]? = some (pm_Ob 2 [.ref (9 + 3 * o9), .int (nI (gT S o9 0)), .int (nI (gT S o9 1)), .int (nI (gT S o9 2))]) := (H.2.2.2.2.2.2.1 o9 ho).2.1
    have ej : j = gT S o9 2 := by omega
    refine px (fun _ => pm_iload (pc := 13) d_Wk_divide_13 rfl) ?_
    refine px (fun _ => pm_aload_n (pc := 15) d_Wk_divide_15 rfl) ?_
    refine px (fun _ => pm_getf fl_Wk_58 (pc := 16) d_Wk_divide_16 t_o9 rfl) ?_
    refine pxb (fun _ => pm_icmp_ge (pc := 19) (tgt := 88) d_Wk_divide_19 (by decide)) (fun c_1 => ?_) (fun c_1 => absurd (by rw [ej]; exact (nI_leI (a := gT S o9 2) (b := gT S o9 2) (by omega) (by omega)).mpr (Nat.le_refl _)) c_1)
    refine px (fun _ => pm_iinc (x := nI i) (v := nI (i + 1)) (lv' := [(3, .int (nI (i + 1))), (4, .int (nI j)), (0, .ref (8 + 3 * a)), (1, .ref (8 + 3 * b)), (2, .ref (8 + 3 * o9))]) (pc := 88) d_Wk_divide_88 rfl (nI_1 _) (by decide) rfl) ?_
    refine px (fun _ => pm_goto (tgt := 2) (pc := 91) d_Wk_divide_91 (by decide)) ?_
    refine pxd [0, 2, 3, 4] rfl ?_
    exact K f h H F (by rw [ej] at iv; exact iv.row)
  | succ d ih =>
    intro i j f h H F iv hi hd9 K
    have bo := hW.2.2.2.2.1 o9 ho
    have ba := hW.2.2.2.2.1 a ha
    have t_a : h[8 + 3 * a]? = some (pm_Ob 2 [.ref (9 + 3 * a), .int (nI (gT S a 0)), .int (nI (gT S a 1)), .int (nI (gT S a 2))]) := (H.2.2.2.2.2.2.1 a ha).2.1
    have t_b : h[8 + 3 * b]? = some (pm_Ob 2 [.ref (9 + 3 * b), .int (nI (gT S b 0)), .int (nI (gT S b 1)), .int (nI (gT S b 2))]) := (H.2.2.2.2.2.2.1 b hb).2.1
    have t_o9 : h[8 + 3 * o9]? = some (pm_Ob 2 [.ref (9 + 3 * o9), .int (nI (gT S o9 0)), .int (nI (gT S o9 1)), .int (nI (gT S o9 2))]) := (H.2.2.2.2.2.2.1 o9 ho).2.1
    have hj : j < gT S o9 2 := by omega
    have hi4 : i < 4 := by omega
    have hj4 : j < 4 := by omega
    refine px (fun _ => pm_iload (pc := 13) d_Wk_divide_13 rfl) ?_
    refine px (fun _ => pm_aload_n (pc := 15) d_Wk_divide_15 rfl) ?_
    refine px (fun _ => pm_getf fl_Wk_58 (pc := 16) d_Wk_divide_16 t_o9 rfl) ?_
    refine pxb (fun _ => pm_icmp_ge (pc := 19) (tgt := 88) d_Wk_divide_19 (by decide)) (fun c_1 => absurd c_1 (fun q => absurd ((nI_leI (a := gT S o9 2) (b := j) (by omega) (by omega)).mp q) (by omega))) (fun c_1 => ?_)
    refine px (fun _ => pm_aload_n (pc := 22) d_Wk_divide_22 rfl) ?_
    refine px (fun _ => pm_iload_n (pc := 23) d_Wk_divide_23 rfl) ?_
    refine px (fun _ => pm_iload (pc := 24) d_Wk_divide_24 rfl) ?_
    refine px (fun _ => k_Wk_divide_26 (kc1 := 0) (ks1 := 0) (kc := 0) (ks := 0) (av := [.int (nI i), .int (nI j)]) (st := []) t_a (c_ag (i := i) (j := j) hl H hW ha na (by omega) (by omega)) rfl rfl (Nat.le_of_ble_eq_true rfl)) ?_
    refine px (fun _ => pm_dstore (lv' := [(5, .double (g_ag S a i j)), (4, .int (nI j)), (3, .int (nI i)), (0, .ref (8 + 3 * a)), (1, .ref (8 + 3 * b)), (2, .ref (8 + 3 * o9))]) (pc := 29) d_Wk_divide_29 (by decide) rfl) ?_
    refine px (fun _ => pm_aload_n (pc := 31) d_Wk_divide_31 rfl) ?_
    refine px (fun _ => pm_iload_n (pc := 32) d_Wk_divide_32 rfl) ?_
    refine px (fun _ => pm_iload (pc := 33) d_Wk_divide_33 rfl) ?_
    refine px (fun _ => k_Wk_divide_35 (kc1 := 0) (ks1 := 0) (kc := 0) (ks := 0) (av := [.int (nI i), .int (nI j)]) (st := []) t_b (c_ag (i := i) (j := j) hl H hW hb nb (by omega) (by omega)) rfl rfl (Nat.le_of_ble_eq_true rfl)) ?_
    refine px (fun _ => pm_dstore (lv' := [(7, .double (g_ag S b i j)), (5, .double (g_ag S a i j)), (4, .int (nI j)), (3, .int (nI i)), (0, .ref (8 + 3 * a)), (1, .ref (8 + 3 * b)), (2, .ref (8 + 3 * o9))]) (pc := 38) d_Wk_divide_38 (by decide) rfl) ?_
    refine px (fun _ => pm_dload (pc := 40) d_Wk_divide_40 rfl) ?_
    refine px (fun _ => pm_dconst0 (pc := 42) d_Wk_divide_42) ?_
    refine px (fun _ => pm_dcmp (pc := 43) d_Wk_divide_43) ?_
    refine pxn (fun _ => pm_if_ne (pc := 44) (tgt := 49) d_Wk_divide_44 (by decide)) (fun c_2 => ?_) (fun c_2 => ?_)
    · refine px (fun _ => pm_aload_n (pc := 49) d_Wk_divide_49 rfl) ?_
      refine px (fun _ => pm_iload_n (pc := 50) d_Wk_divide_50 rfl) ?_
      refine px (fun _ => pm_iload (pc := 51) d_Wk_divide_51 rfl) ?_
      refine px (fun _ => pm_aload_n (pc := 53) d_Wk_divide_53 rfl) ?_
      refine px (fun _ => pm_getf fl_Wk_84 (pc := 54) d_Wk_divide_54 t_a rfl) ?_
      refine px (fun _ => pm_iconst (v := 1) (pc := 57) d_Wk_divide_57 rfl) ?_
      refine pxn (fun _ => pm_icmp_ne (pc := 58) (tgt := 74) d_Wk_divide_58 (by decide)) (fun c_3 => ?_) (fun c_3 => ?_)
      · have n_c_3 : ¬ ((gT S a 0) = 1) := fun q => c_3 ((nI_eq (a := (gT S a 0)) (b := 1) (by omega) (by omega)).mpr q)
        refine px (fun _ => pm_dload (pc := 74) d_Wk_divide_74 rfl) ?_
        refine px (fun _ => pm_dload (pc := 76) d_Wk_divide_76 rfl) ?_
        refine px (fun _ => pm_ddiv (pc := 78) d_Wk_divide_78 (hne i j hi hj n_c_3 c_2)) ?_
        obtain ⟨⟨o4, h4⟩, ⟨e4, H4, F4⟩, en4⟩ := c_putf (l := l) (G := G) (fi := fi) (v := (FP.ddiv (g_ag S a i j) (g_ag S b i j))) hl H hW ho (i := i) (j := j) (by omega) (by omega)
        dsimp only at e4 H4 F4
        subst e4
        refine px (fun _ => k_Wk_divide_79 (kc1 := 0) (ks1 := 0) (kc := 0) (ks := 0) (av := [.int (nI i), .int (nI j), .double ((FP.ddiv (g_ag S a i j) (g_ag S b i j)))]) (st := []) t_o9 (en4) rfl rfl (Nat.le_of_ble_eq_true rfl)) ?_
        refine px (fun _ => pm_iinc (x := nI j) (v := nI (j + 1)) (lv' := [(4, .int (nI (j + 1))), (7, .double (g_ag S b i j)), (5, .double (g_ag S a i j)), (3, .int (nI i)), (0, .ref (8 + 3 * a)), (1, .ref (8 + 3 * b)), (2, .ref (8 + 3 * o9))]) (pc := 82) d_Wk_divide_82 rfl (nI_1 _) (by decide) rfl) ?_
        refine px (fun _ => pm_goto (tgt := 13) (pc := 85) d_Wk_divide_85 (by decide)) ?_
        refine pxd [0, 3, 4, 5, 6] rfl ?_
        exact ih i (j + 1) _ _ H4 (F.tr F4) (iv.step (by omega) hj (by show _ = if gT S a 0 = 1 then FP.i2d (g_dv (FP.d2i (g_ag S a i j)) (FP.d2i (g_ag S b i j))) else FP.ddiv (g_ag S a i j) (g_ag S b i j); rw [if_neg (by assumption)]) (c_2)) hi (by omega) K
      · have n_c_3 : (gT S a 0) = 1 := (nI_eq (a := (gT S a 0)) (b := 1) (by omega) (by omega)).mp c_3
        refine px (fun _ => pm_dload (pc := 61) d_Wk_divide_61 rfl) ?_
        refine px (fun _ => pm_d2i (pc := 63) d_Wk_divide_63) ?_
        refine px (fun _ => pm_dload (pc := 64) d_Wk_divide_64 rfl) ?_
        refine px (fun _ => pm_d2i (pc := 66) d_Wk_divide_66) ?_
        refine px (fun _ => k_Wk_divide_67 (kc1 := 0) (ks1 := 0) (kc := 0) (ks := 0) (av := [.int ((FP.d2i (g_ag S a i j))), .int ((FP.d2i (g_ag S b i j)))]) (st := [.int (nI j), .int (nI i), .ref (8 + 3 * o9)]) (c_dv hl) rfl rfl (Nat.le_of_ble_eq_true rfl)) ?_
        refine px (fun _ => pm_i2d (pc := 70) d_Wk_divide_70) ?_
        refine px (fun _ => pm_goto (tgt := 79) (pc := 71) d_Wk_divide_71 (by decide)) ?_
        obtain ⟨⟨o5, h5⟩, ⟨e5, H5, F5⟩, en5⟩ := c_putf (l := l) (G := G) (fi := fi) (v := (FP.i2d (g_dv (FP.d2i (g_ag S a i j)) (FP.d2i (g_ag S b i j))))) hl H hW ho (i := i) (j := j) (by omega) (by omega)
        dsimp only at e5 H5 F5
        subst e5
        refine px (fun _ => k_Wk_divide_79 (kc1 := 0) (ks1 := 0) (kc := 0) (ks := 0) (av := [.int (nI i), .int (nI j), .double ((FP.i2d (g_dv (FP.d2i (g_ag S a i j)) (FP.d2i (g_ag S b i j)))))]) (st := []) t_o9 (en5) rfl rfl (Nat.le_of_ble_eq_true rfl)) ?_
        refine px (fun _ => pm_iinc (x := nI j) (v := nI (j + 1)) (lv' := [(4, .int (nI (j + 1))), (7, .double (g_ag S b i j)), (5, .double (g_ag S a i j)), (3, .int (nI i)), (0, .ref (8 + 3 * a)), (1, .ref (8 + 3 * b)), (2, .ref (8 + 3 * o9))]) (pc := 82) d_Wk_divide_82 rfl (nI_1 _) (by decide) rfl) ?_
        refine px (fun _ => pm_goto (tgt := 13) (pc := 85) d_Wk_divide_85 (by decide)) ?_
        refine pxd [0, 3, 4, 5, 6] rfl ?_
        exact ih i (j + 1) _ _ H5 (F.tr F5) (iv.step (by omega) hj (by show _ = if gT S a 0 = 1 then FP.i2d (g_dv (FP.d2i (g_ag S a i j)) (FP.d2i (g_ag S b i j))) else FP.ddiv (g_ag S a i j) (g_ag S b i j); rw [if_pos (by assumption)]) (c_2)) hi (by omega) K
    · refine px (fun _ => pm_iconst (v := 1) (pc := 47) d_Wk_divide_47 rfl) ?_
      exact pxr (pm_iret (pc := 48) d_Wk_divide_48 rfl rfl) ⟨f, H, F, Or.inr ⟨rfl, i, j, hi, hj, fun q => q c_2⟩⟩
set_option maxHeartbeats 4000000 in
set_option maxRecDepth 20000 in
theorem lpo_div {l : Launch} {G : pm_G} {fi : Bool} {S : gS} {h0 : pm_H} {a b o9 : Nat} (hl : l.stackTraces = false) (hW : gW S) (ho : o9 < 20) (ha : a < 20) (na : a ≠ o9) (hb : b < 20) (nb : b ≠ o9) (hne : ∀ x y, x < gT S o9 1 → y < gT S o9 2 → ¬ gT S a 0 = 1 → ¬ fEq (g_ag S b x y) FP.dconst0 → vf_n64 (FP.ddiv (g_ag S a x y) (g_ag S b x y))) : ∀ (d i : Nat) (f : Nat → UInt64) (h : pm_H), gH (gsC S o9 f) h → gFr h0 h → g_invZ (fun x y => if gT S a 0 = 1 then FP.i2d (g_dv (FP.d2i (g_ag S a x y)) (FP.d2i (g_ag S b x y))) else FP.ddiv (g_ag S a x y) (g_ag S b x y)) (fun x y => ¬ fEq (g_ag S b x y) FP.dconst0) (gT S o9 2) f (i) (0) → i + d = gT S o9 1 → pm_Px l G fi fi 0 0 M_Wk_divide 2 [(3, .int (nI i)), (0, .ref (8 + 3 * a)), (1, .ref (8 + 3 * b)), (2, .ref (8 + 3 * o9))] [] h (g_Pz S o9 h0 (fun x y => if gT S a 0 = 1 then FP.i2d (g_dv (FP.d2i (g_ag S a x y)) (FP.d2i (g_ag S b x y))) else FP.ddiv (g_ag S a x y) (g_ag S b x y)) (fun x y => ¬ fEq (g_ag S b x y) FP.dconst0) (gT S o9 1) (gT S o9 2)) := by
  intro d
  induction d with
  | zero =>
    intro i f h H F iv hd9
    have bo := hW.2.2.2.2.1 o9 ho
    have ba := hW.2.2.2.2.1 a ha
    have t_a : h[8 + 3 * a]? = some (pm_Ob 2 [.ref (9 + 3 * a), .int (nI (gT S a 0)), .int (nI (gT S a 1)), .int (nI (gT S a 2))]) := (H.2.2.2.2.2.2.1 a ha).2.1
    have t_b : h[8 + 3 * b]? = some (pm_Ob 2 [.ref (9 + 3 * b), .int (nI (gT S b 0)), .int (nI (gT S b 1)), .int (nI (gT S b 2))]) := (H.2.2.2.2.2.2.1 b hb).2.1
    have t_o9 : h[8 + 3 * o9]? = some (pm_Ob 2 [.ref (9 + 3 * o9), .int (nI (gT S o9 0)), .int (nI (gT S o9 1)), .int (nI (gT S o9 2))]) := (H.2.2.2.2.2.2.1 o9 ho).2.1
    have ei : i = gT S o9 1 := by omega
    refine px (fun _ => pm_iload_n (pc := 2) d_Wk_divide_2 rfl) ?_
    refine px (fun _ => pm_aload_n (pc := 3) d_Wk_divide_3 rfl) ?_
    refine px (fun _ => pm_getf fl_Wk_53 (pc := 4) d_Wk_divide_4 t_o9 rfl) ?_
    refine pxb (fun _ => pm_icmp_ge (pc := 7) (tgt := 94) d_Wk_divide_7 (by decide)) (fun c_1 => ?_) (fun c_1 => absurd (by rw [ei]; exact (nI_leI (a := gT S o9 1) (b := gT S o9 1) (by omega) (by omega)).mpr (Nat.le_refl _)) c_1)
    refine px (fun _ => pm_iconst (v := 0) (pc := 94) d_Wk_divide_94 rfl) ?_
    exact pxr (pm_iret (pc := 95) d_Wk_divide_95 rfl rfl) ⟨f, H, F, Or.inl ⟨rfl, by rw [ei] at iv; exact iv⟩⟩
  | succ d ih =>
    intro i f h H F iv hd9
    have bo := hW.2.2.2.2.1 o9 ho
    have ba := hW.2.2.2.2.1 a ha
    have t_a : h[8 + 3 * a]? = some (pm_Ob 2 [.ref (9 + 3 * a), .int (nI (gT S a 0)), .int (nI (gT S a 1)), .int (nI (gT S a 2))]) := (H.2.2.2.2.2.2.1 a ha).2.1
    have t_b : h[8 + 3 * b]? = some (pm_Ob 2 [.ref (9 + 3 * b), .int (nI (gT S b 0)), .int (nI (gT S b 1)), .int (nI (gT S b 2))]) := (H.2.2.2.2.2.2.1 b hb).2.1
    have t_o9 : h[8 + 3 * o9]? = some (pm_Ob 2 [.ref (9 + 3 * o9), .int (nI (gT S o9 0)), .int (nI (gT S o9 1)), .int (nI (gT S o9 2))]) := (H.2.2.2.2.2.2.1 o9 ho).2.1
    refine px (fun _ => pm_iload_n (pc := 2) d_Wk_divide_2 rfl) ?_
    refine px (fun _ => pm_aload_n (pc := 3) d_Wk_divide_3 rfl) ?_
    refine px (fun _ => pm_getf fl_Wk_53 (pc := 4) d_Wk_divide_4 t_o9 rfl) ?_
    refine pxb (fun _ => pm_icmp_ge (pc := 7) (tgt := 94) d_Wk_divide_7 (by decide)) (fun c_1 => absurd c_1 (fun q => absurd ((nI_leI (a := gT S o9 1) (b := i) (by omega) (by omega)).mp q) (by omega))) (fun c_1 => ?_)
    refine px (fun _ => pm_iconst (v := 0) (pc := 10) d_Wk_divide_10 rfl) ?_
    refine px (fun _ => pm_istore (lv' := [(4, .int (0)), (3, .int (nI i)), (0, .ref (8 + 3 * a)), (1, .ref (8 + 3 * b)), (2, .ref (8 + 3 * o9))]) (pc := 11) d_Wk_divide_11 (by decide) rfl) ?_
    refine pxd [0, 1, 2, 3, 4] rfl ?_
    exact lpi_div hl hW ho ha na hb nb hne (gT S o9 2) i 0 f h H F iv (by omega) (by omega) (fun f1 h1 a1 a2 a3 => ih (i + 1) f1 h1 a1 a2 a3 (by omega))
set_option maxHeartbeats 4000000 in
set_option maxRecDepth 20000 in
theorem w_div {l : Launch} {G : pm_G} {fi : Bool} {h : pm_H} {S : gS} {a b o9 : Nat} (hl : l.stackTraces = false) (H : gH S h) (hW : gW S) (ho : o9 < 20) (ha : a < 20) (na : a ≠ o9) (hb : b < 20) (nb : b ≠ o9) (hne : ∀ x y, x < gT S o9 1 → y < gT S o9 2 → ¬ gT S a 0 = 1 → ¬ fEq (g_ag S b x y) FP.dconst0 → vf_n64 (FP.ddiv (g_ag S a x y) (g_ag S b x y))) : pm_Cn l G fi fi 0 0 M_Wk_divide [.ref (8 + 3 * a), .ref (8 + 3 * b), .ref (8 + 3 * o9)] h (g_Pz S o9 h (fun x y => if gT S a 0 = 1 then FP.i2d (g_dv (FP.d2i (g_ag S a x y)) (FP.d2i (g_ag S b x y))) else FP.ddiv (g_ag S a x y) (g_ag S b x y)) (fun x y => ¬ fEq (g_ag S b x y) FP.dconst0) (gT S o9 1) (gT S o9 2)) := by
  refine pm_Cn.of hl (by decide) (Nat.le_of_ble_eq_true rfl) ?_
  refine px (fun _ => pm_iconst (v := 0) (pc := 0) d_Wk_divide_0 rfl) ?_
  refine px (fun _ => pm_istore_n (lv' := [(3, .int (0)), (0, .ref (8 + 3 * a)), (1, .ref (8 + 3 * b)), (2, .ref (8 + 3 * o9))]) (pc := 1) d_Wk_divide_1 (by decide) rfl) ?_
  exact lpo_div hl hW ho ha na hb nb hne (gT S o9 1) 0 (gC S o9) h (by rw [gsC_self]; exact H) (gFr.rf h) g_invZ.z (by omega)
set_option maxHeartbeats 4000000 in
set_option maxRecDepth 20000 in
theorem lpk_mul {l : Launch} {G : pm_G} {fi : Bool} {S : gS} {h : pm_H} {Post : pm_O × pm_H → Prop} {f : Nat → UInt64} {a b o9 : Nat} {i j : Nat} (hl : l.stackTraces = false) (hW : gW S) (ho : o9 < 20) (ha : a < 20) (na : a ≠ o9) (hb : b < 20) (nb : b ≠ o9) (hBa : ∀ x k, x < gT S o9 1 → k < gT S a 2 → gB (gC S a (x * 4 + k))) (hBb : ∀ k y, k < gT S a 2 → y < gT S o9 2 → gB (gC S b (k * 4 + y))) (H : gH (gsC S o9 f) h) (hi : i < gT S o9 1) (hj : j < gT S o9 2) : ∀ (d k : Nat) (acc : UInt64), k + d = gT S a 2 → acc.toNat % 2 ^ 63 < (1090 + 2 * k) * 2 ^ 52 → pm_Px l G fi fi 0 0 M_Wk_multiplyTables 64 [(5, .double (g_dot (fun k => gC S a (i * 4 + k)) (fun k => gC S b (k * 4 + j)) d k acc)), (4, .int (nI j)), (3, .int (nI i)), (0, .ref (8 + 3 * a)), (1, .ref (8 + 3 * b)), (2, .ref (8 + 3 * o9))] [] h Post → pm_Px l G fi fi 0 0 M_Wk_multiplyTables 28 [(7, .int (nI k)), (5, .double (acc)), (4, .int (nI j)), (3, .int (nI i)), (0, .ref (8 + 3 * a)), (1, .ref (8 + 3 * b)), (2, .ref (8 + 3 * o9))] [] h Post := by
  have bo := hW.2.2.2.2.1 o9 ho
  have ba := hW.2.2.2.2.1 a ha
  have bb := hW.2.2.2.2.1 b hb
  have t_a : h[8 + 3 * a]? = some (pm_Ob 2 [.ref (9 + 3 * a), .int (nI (gT S a 0)), .int (nI (gT S a 1)), .int (nI (gT S a 2))]) := (H.2.2.2.2.2.2.1 a ha).2.1
  have t_b : h[8 + 3 * b]? = some (pm_Ob 2 [.ref (9 + 3 * b), .int (nI (gT S b 0)), .int (nI (gT S b 1)), .int (nI (gT S b 2))]) := (H.2.2.2.2.2.2.1 b hb).2.1
  have t_o9 : h[8 + 3 * o9]? = some (pm_Ob 2 [.ref (9 + 3 * o9), .int (nI (gT S o9 0)), .int (nI (gT S o9 1)), .int (nI (gT S o9 2))]) := (H.2.2.2.2.2.2.1 o9 ho).2.1
  intro d
  induction d with
  | zero =>
    intro k acc hk ha9 K
    have ek : k = gT S a 2 := by omega
    refine px (fun _ => pm_iload (pc := 28) d_Wk_multiplyTables_28 rfl) ?_
    refine px (fun _ => pm_aload_n (pc := 30) d_Wk_multiplyTables_30 rfl) ?_
    refine px (fun _ => pm_getf fl_Wk_58 (pc := 31) d_Wk_multiplyTables_31 t_a rfl) ?_
    refine pxb (fun _ => pm_icmp_ge (pc := 34) (tgt := 64) d_Wk_multiplyTables_34 (by decide)) (fun c_1 => ?_) (fun c_1 => absurd (by rw [ek]; exact (nI_leI (a := gT S a 2) (b := gT S a 2) (by omega) (by omega)).mpr (Nat.le_refl _)) c_1)
    refine pxd [1, 2, 3, 4, 5, 6] rfl ?_
    exact K
  | succ d ih =>
    intro k acc hk ha9 K
    have hk4 : k < gT S a 2 := by omega
    have nn := g_dot_ok (acc := acc) (k := k) (x := (fun k => gC S a (i * 4 + k)) k) (y := (fun k => gC S b (k * 4 + j)) k) (by omega) ha9 (hBa i k hi hk4) (hBb k j hk4 hj)
    refine px (fun _ => pm_iload (pc := 28) d_Wk_multiplyTables_28 rfl) ?_
    refine px (fun _ => pm_aload_n (pc := 30) d_Wk_multiplyTables_30 rfl) ?_
    refine px (fun _ => pm_getf fl_Wk_58 (pc := 31) d_Wk_multiplyTables_31 t_a rfl) ?_
    refine pxb (fun _ => pm_icmp_ge (pc := 34) (tgt := 64) d_Wk_multiplyTables_34 (by decide)) (fun c_1 => absurd c_1 (fun q => absurd ((nI_leI (a := gT S a 2) (b := k) (by omega) (by omega)).mp q) (by omega))) (fun c_1 => ?_)
    refine px (fun _ => pm_dload (pc := 37) d_Wk_multiplyTables_37 rfl) ?_
    refine px (fun _ => pm_aload_n (pc := 39) d_Wk_multiplyTables_39 rfl) ?_
    refine px (fun _ => pm_iload_n (pc := 40) d_Wk_multiplyTables_40 rfl) ?_
    refine px (fun _ => pm_iload (pc := 41) d_Wk_multiplyTables_41 rfl) ?_
    refine px (fun _ => k_Wk_multiplyTables_43 (kc1 := 0) (ks1 := 0) (kc := 0) (ks := 0) (av := [.int (nI i), .int (nI k)]) (st := [.double (acc)]) t_a (c_atf (i := i) (j := k) hl H ha na (by omega) (by omega)) rfl rfl (Nat.le_of_ble_eq_true rfl)) ?_
    refine px (fun _ => pm_aload_n (pc := 46) d_Wk_multiplyTables_46 rfl) ?_
    refine px (fun _ => pm_iload (pc := 47) d_Wk_multiplyTables_47 rfl) ?_
    refine px (fun _ => pm_iload (pc := 49) d_Wk_multiplyTables_49 rfl) ?_
    refine px (fun _ => k_Wk_multiplyTables_51 (kc1 := 0) (ks1 := 0) (kc := 0) (ks := 0) (av := [.int (nI k), .int (nI j)]) (st := [.double (gC S a (i * 4 + k)), .double (acc)]) t_b (c_atf (i := k) (j := j) hl H hb nb (by omega) (by omega)) rfl rfl (Nat.le_of_ble_eq_true rfl)) ?_
    refine px (fun _ => pm_dmul (pc := 54) d_Wk_multiplyTables_54 (nn.1)) ?_
    refine px (fun _ => pm_dadd (pc := 55) d_Wk_multiplyTables_55 (nn.2.1)) ?_
    refine px (fun _ => pm_dstore (lv' := [(5, .double ((FP.dadd acc (FP.dmul (gC S a (i * 4 + k)) (gC S b (k * 4 + j)))))), (7, .int (nI k)), (4, .int (nI j)), (3, .int (nI i)), (0, .ref (8 + 3 * a)), (1, .ref (8 + 3 * b)), (2, .ref (8 + 3 * o9))]) (pc := 56) d_Wk_multiplyTables_56 (by decide) rfl) ?_
    refine px (fun _ => pm_iinc (x := nI k) (v := nI (k + 1)) (lv' := [(7, .int (nI (k + 1))), (5, .double ((FP.dadd acc (FP.dmul (gC S a (i * 4 + k)) (gC S b (k * 4 + j)))))), (4, .int (nI j)), (3, .int (nI i)), (0, .ref (8 + 3 * a)), (1, .ref (8 + 3 * b)), (2, .ref (8 + 3 * o9))]) (pc := 58) d_Wk_multiplyTables_58 rfl (nI_1 _) (by decide) rfl) ?_
    refine px (fun _ => pm_goto (tgt := 28) (pc := 61) d_Wk_multiplyTables_61 (by decide)) ?_
    refine pxd [0, 1, 2, 3, 4, 5, 6] rfl ?_
    exact ih (k + 1) _ (by omega) nn.2.2 K
set_option maxHeartbeats 4000000 in
set_option maxRecDepth 20000 in
theorem lpi_mul {l : Launch} {G : pm_G} {fi : Bool} {S : gS} {h0 : pm_H} {a b o9 : Nat} (hl : l.stackTraces = false) (hW : gW S) (ho : o9 < 20) (ha : a < 20) (na : a ≠ o9) (hb : b < 20) (nb : b ≠ o9) (hBa : ∀ x k, x < gT S o9 1 → k < gT S a 2 → gB (gC S a (x * 4 + k))) (hBb : ∀ k y, k < gT S a 2 → y < gT S o9 2 → gB (gC S b (k * 4 + y))) : ∀ (d i j : Nat) (f : Nat → UInt64) (h : pm_H), gH (gsC S o9 f) h → gFr h0 h → g_inv (fun x y => g_dot (fun k => gC S a (x * 4 + k)) (fun k => gC S b (k * 4 + y)) (gT S a 2) 0 FP.dconst0) (gT S o9 2) f (i) (j) → i < gT S o9 1 → j + d = gT S o9 2 → (∀ f1 h1, gH (gsC S o9 f1) h1 → gFr h0 h1 → g_inv (fun x y => g_dot (fun k => gC S a (x * 4 + k)) (fun k => gC S b (k * 4 + y)) (gT S a 2) 0 FP.dconst0) (gT S o9 2) f1 (i + 1) (0) → pm_Px l G fi fi 0 0 M_Wk_multiplyTables 2 [(3, .int (nI (i + 1))), (0, .ref (8 + 3 * a)), (1, .ref (8 + 3 * b)), (2, .ref (8 + 3 * o9))] [] h1 (g_Pw S o9 h0 (fun x y => g_dot (fun k => gC S a (x * 4 + k)) (fun k => gC S b (k * 4 + y)) (gT S a 2) 0 FP.dconst0) (gT S o9 1) (gT S o9 2) (.inl (none)))) → pm_Px l G fi fi 0 0 M_Wk_multiplyTables 13 [(4, .int (nI j)), (3, .int (nI i)), (0, .ref (8 + 3 * a)), (1, .ref (8 + 3 * b)), (2, .ref (8 + 3 * o9))] [] h (g_Pw S o9 h0 (fun x y => g_dot (fun k => gC S a (x * 4 + k)) (fun k => gC S b (k * 4 + y)) (gT S a 2) 0 FP.dconst0) (gT S o9 1) (gT S o9 2) (.inl (none))) := by
  intro d
  induction d with
  | zero =>
    intro i j f h H F iv hi hd9 K
    have bo := hW.2.2.2.2.1 o9 ho
    have t_a : h[8 + 3 * a]? = some (pm_Ob 2 [.ref (9 + 3 * a), .int (nI (gT S a 0)), .int (nI (gT S a 1)), .int (nI (gT S a 2))]) := (H.2.2.2.2.2.2.1 a ha).2.1
    have t_b : h[8 + 3 * b]? = some (pm_Ob 2 [.ref (9 + 3 * b), .int (nI (gT S b 0)), .int (nI (gT S b 1)), .int (nI (gT S b 2))]) := (H.2.2.2.2.2.2.1 b hb).2.1
    have t_o9 : h[8 + 3 * o9]? = some (pm_Ob 2 [.ref (9 + 3 * o9), .int (nI (gT S o9 0)), .int (nI (gT S o9 1)), .int (nI (gT S o9 2))]) := (H.2.2.2.2.2.2.1 o9 ho).2.1
    have ej : j = gT S o9 2 := by omega
    refine px (fun _ => pm_iload (pc := 13) d_Wk_multiplyTables_13 rfl) ?_
    refine px (fun _ => pm_aload_n (pc := 15) d_Wk_multiplyTables_15 rfl) ?_
    refine px (fun _ => pm_getf fl_Wk_58 (pc := 16) d_Wk_multiplyTables_16 t_o9 rfl) ?_
    refine pxb (fun _ => pm_icmp_ge (pc := 19) (tgt := 79) d_Wk_multiplyTables_19 (by decide)) (fun c_1 => ?_) (fun c_1 => absurd (by rw [ej]; exact (nI_leI (a := gT S o9 2) (b := gT S o9 2) (by omega) (by omega)).mpr (Nat.le_refl _)) c_1)
    refine px (fun _ => pm_iinc (x := nI i) (v := nI (i + 1)) (lv' := [(3, .int (nI (i + 1))), (4, .int (nI j)), (0, .ref (8 + 3 * a)), (1, .ref (8 + 3 * b)), (2, .ref (8 + 3 * o9))]) (pc := 79) d_Wk_multiplyTables_79 rfl (nI_1 _) (by decide) rfl) ?_
    refine px (fun _ => pm_goto (tgt := 2) (pc := 82) d_Wk_multiplyTables_82 (by decide)) ?_
    refine pxd [0, 2, 3, 4] rfl ?_
    exact K f h H F (by rw [ej] at iv; exact iv.row)
  | succ d ih =>
    intro i j f h H F iv hi hd9 K
    have bo := hW.2.2.2.2.1 o9 ho
    have t_a : h[8 + 3 * a]? = some (pm_Ob 2 [.ref (9 + 3 * a), .int (nI (gT S a 0)), .int (nI (gT S a 1)), .int (nI (gT S a 2))]) := (H.2.2.2.2.2.2.1 a ha).2.1
    have t_b : h[8 + 3 * b]? = some (pm_Ob 2 [.ref (9 + 3 * b), .int (nI (gT S b 0)), .int (nI (gT S b 1)), .int (nI (gT S b 2))]) := (H.2.2.2.2.2.2.1 b hb).2.1
    have t_o9 : h[8 + 3 * o9]? = some (pm_Ob 2 [.ref (9 + 3 * o9), .int (nI (gT S o9 0)), .int (nI (gT S o9 1)), .int (nI (gT S o9 2))]) := (H.2.2.2.2.2.2.1 o9 ho).2.1
    have hj : j < gT S o9 2 := by omega
    have hi4 : i < 4 := by omega
    have hj4 : j < 4 := by omega
    refine px (fun _ => pm_iload (pc := 13) d_Wk_multiplyTables_13 rfl) ?_
    refine px (fun _ => pm_aload_n (pc := 15) d_Wk_multiplyTables_15 rfl) ?_
    refine px (fun _ => pm_getf fl_Wk_58 (pc := 16) d_Wk_multiplyTables_16 t_o9 rfl) ?_
    refine pxb (fun _ => pm_icmp_ge (pc := 19) (tgt := 79) d_Wk_multiplyTables_19 (by decide)) (fun c_1 => absurd c_1 (fun q => absurd ((nI_leI (a := gT S o9 2) (b := j) (by omega) (by omega)).mp q) (by omega))) (fun c_1 => ?_)
    refine px (fun _ => pm_dconst0 (pc := 22) d_Wk_multiplyTables_22) ?_
    refine px (fun _ => pm_dstore (lv' := [(5, .double (FP.dconst0)), (4, .int (nI j)), (3, .int (nI i)), (0, .ref (8 + 3 * a)), (1, .ref (8 + 3 * b)), (2, .ref (8 + 3 * o9))]) (pc := 23) d_Wk_multiplyTables_23 (by decide) rfl) ?_
    refine px (fun _ => pm_iconst (v := 0) (pc := 25) d_Wk_multiplyTables_25 rfl) ?_
    refine px (fun _ => pm_istore (lv' := [(7, .int (0)), (5, .double (FP.dconst0)), (4, .int (nI j)), (3, .int (nI i)), (0, .ref (8 + 3 * a)), (1, .ref (8 + 3 * b)), (2, .ref (8 + 3 * o9))]) (pc := 26) d_Wk_multiplyTables_26 (by decide) rfl) ?_
    refine pxd [0, 1, 2, 3, 4, 5, 6] rfl ?_
    refine lpk_mul hl hW ho ha na hb nb hBa hBb H hi hj (gT S a 2) 0 FP.dconst0 (by omega) (by decide) ?_
    refine px (fun _ => pm_aload_n (pc := 64) d_Wk_multiplyTables_64 rfl) ?_
    refine px (fun _ => pm_iload_n (pc := 65) d_Wk_multiplyTables_65 rfl) ?_
    refine px (fun _ => pm_iload (pc := 66) d_Wk_multiplyTables_66 rfl) ?_
    refine px (fun _ => pm_dload (pc := 68) d_Wk_multiplyTables_68 rfl) ?_
    obtain ⟨⟨o2, h2⟩, ⟨e2, H2, F2⟩, en2⟩ := c_putf (l := l) (G := G) (fi := fi) (v := g_dot (fun k => gC S a (i * 4 + k)) (fun k => gC S b (k * 4 + j)) (gT S a 2) 0 FP.dconst0) hl H hW ho (i := i) (j := j) (by omega) (by omega)
    dsimp only at e2 H2 F2
    subst e2
    refine px (fun _ => k_Wk_multiplyTables_70 (kc1 := 0) (ks1 := 0) (kc := 0) (ks := 0) (av := [.int (nI i), .int (nI j), .double (g_dot (fun k => gC S a (i * 4 + k)) (fun k => gC S b (k * 4 + j)) (gT S a 2) 0 FP.dconst0)]) (st := []) t_o9 (en2) rfl rfl (Nat.le_of_ble_eq_true rfl)) ?_
    refine px (fun _ => pm_iinc (x := nI j) (v := nI (j + 1)) (lv' := [(4, .int (nI (j + 1))), (5, .double (g_dot (fun k => gC S a (i * 4 + k)) (fun k => gC S b (k * 4 + j)) (gT S a 2) 0 FP.dconst0)), (3, .int (nI i)), (0, .ref (8 + 3 * a)), (1, .ref (8 + 3 * b)), (2, .ref (8 + 3 * o9))]) (pc := 73) d_Wk_multiplyTables_73 rfl (nI_1 _) (by decide) rfl) ?_
    refine px (fun _ => pm_goto (tgt := 13) (pc := 76) d_Wk_multiplyTables_76 (by decide)) ?_
    refine pxd [0, 2, 3, 4, 5] rfl ?_
    exact ih i (j + 1) _ _ H2 (F.tr F2) (iv.step (by omega) hj (rfl)) hi (by omega) K
set_option maxHeartbeats 4000000 in
set_option maxRecDepth 20000 in
theorem lpo_mul {l : Launch} {G : pm_G} {fi : Bool} {S : gS} {h0 : pm_H} {a b o9 : Nat} (hl : l.stackTraces = false) (hW : gW S) (ho : o9 < 20) (ha : a < 20) (na : a ≠ o9) (hb : b < 20) (nb : b ≠ o9) (hBa : ∀ x k, x < gT S o9 1 → k < gT S a 2 → gB (gC S a (x * 4 + k))) (hBb : ∀ k y, k < gT S a 2 → y < gT S o9 2 → gB (gC S b (k * 4 + y))) : ∀ (d i : Nat) (f : Nat → UInt64) (h : pm_H), gH (gsC S o9 f) h → gFr h0 h → g_inv (fun x y => g_dot (fun k => gC S a (x * 4 + k)) (fun k => gC S b (k * 4 + y)) (gT S a 2) 0 FP.dconst0) (gT S o9 2) f (i) (0) → i + d = gT S o9 1 → pm_Px l G fi fi 0 0 M_Wk_multiplyTables 2 [(3, .int (nI i)), (0, .ref (8 + 3 * a)), (1, .ref (8 + 3 * b)), (2, .ref (8 + 3 * o9))] [] h (g_Pw S o9 h0 (fun x y => g_dot (fun k => gC S a (x * 4 + k)) (fun k => gC S b (k * 4 + y)) (gT S a 2) 0 FP.dconst0) (gT S o9 1) (gT S o9 2) (.inl (none))) := by
  intro d
  induction d with
  | zero =>
    intro i f h H F iv hd9
    have bo := hW.2.2.2.2.1 o9 ho
    have t_a : h[8 + 3 * a]? = some (pm_Ob 2 [.ref (9 + 3 * a), .int (nI (gT S a 0)), .int (nI (gT S a 1)), .int (nI (gT S a 2))]) := (H.2.2.2.2.2.2.1 a ha).2.1
    have t_b : h[8 + 3 * b]? = some (pm_Ob 2 [.ref (9 + 3 * b), .int (nI (gT S b 0)), .int (nI (gT S b 1)), .int (nI (gT S b 2))]) := (H.2.2.2.2.2.2.1 b hb).2.1
    have t_o9 : h[8 + 3 * o9]? = some (pm_Ob 2 [.ref (9 + 3 * o9), .int (nI (gT S o9 0)), .int (nI (gT S o9 1)), .int (nI (gT S o9 2))]) := (H.2.2.2.2.2.2.1 o9 ho).2.1
    have ei : i = gT S o9 1 := by omega
    refine px (fun _ => pm_iload_n (pc := 2) d_Wk_multiplyTables_2 rfl) ?_
    refine px (fun _ => pm_aload_n (pc := 3) d_Wk_multiplyTables_3 rfl) ?_
    refine px (fun _ => pm_getf fl_Wk_53 (pc := 4) d_Wk_multiplyTables_4 t_o9 rfl) ?_
    refine pxb (fun _ => pm_icmp_ge (pc := 7) (tgt := 85) d_Wk_multiplyTables_7 (by decide)) (fun c_1 => ?_) (fun c_1 => absurd (by rw [ei]; exact (nI_leI (a := gT S o9 1) (b := gT S o9 1) (by omega) (by omega)).mpr (Nat.le_refl _)) c_1)
    exact pxr (pm_vret (pc := 85) d_Wk_multiplyTables_85 rfl) ⟨rfl, f, H, F, by rw [ei] at iv; exact iv⟩
  | succ d ih =>
    intro i f h H F iv hd9
    have bo := hW.2.2.2.2.1 o9 ho
    have t_a : h[8 + 3 * a]? = some (pm_Ob 2 [.ref (9 + 3 * a), .int (nI (gT S a 0)), .int (nI (gT S a 1)), .int (nI (gT S a 2))]) := (H.2.2.2.2.2.2.1 a ha).2.1
    have t_b : h[8 + 3 * b]? = some (pm_Ob 2 [.ref (9 + 3 * b), .int (nI (gT S b 0)), .int (nI (gT S b 1)), .int (nI (gT S b 2))]) := (H.2.2.2.2.2.2.1 b hb).2.1
    have t_o9 : h[8 + 3 * o9]? = some (pm_Ob 2 [.ref (9 + 3 * o9), .int (nI (gT S o9 0)), .int (nI (gT S o9 1)), .int (nI (gT S o9 2))]) := (H.2.2.2.2.2.2.1 o9 ho).2.1
    refine px (fun _ => pm_iload_n (pc := 2) d_Wk_multiplyTables_2 rfl) ?_
    refine px (fun _ => pm_aload_n (pc := 3) d_Wk_multiplyTables_3 rfl) ?_
    refine px (fun _ => pm_getf fl_Wk_53 (pc := 4) d_Wk_multiplyTables_4 t_o9 rfl) ?_
    refine pxb (fun _ => pm_icmp_ge (pc := 7) (tgt := 85) d_Wk_multiplyTables_7 (by decide)) (fun c_1 => absurd c_1 (fun q => absurd ((nI_leI (a := gT S o9 1) (b := i) (by omega) (by omega)).mp q) (by omega))) (fun c_1 => ?_)
    refine px (fun _ => pm_iconst (v := 0) (pc := 10) d_Wk_multiplyTables_10 rfl) ?_
    refine px (fun _ => pm_istore (lv' := [(4, .int (0)), (3, .int (nI i)), (0, .ref (8 + 3 * a)), (1, .ref (8 + 3 * b)), (2, .ref (8 + 3 * o9))]) (pc := 11) d_Wk_multiplyTables_11 (by decide) rfl) ?_
    refine pxd [0, 1, 2, 3, 4] rfl ?_
    exact lpi_mul hl hW ho ha na hb nb hBa hBb (gT S o9 2) i 0 f h H F iv (by omega) (by omega) (fun f1 h1 a1 a2 a3 => ih (i + 1) f1 h1 a1 a2 a3 (by omega))
set_option maxHeartbeats 4000000 in
set_option maxRecDepth 20000 in
theorem w_mul {l : Launch} {G : pm_G} {fi : Bool} {h : pm_H} {S : gS} {a b o9 : Nat} (hl : l.stackTraces = false) (H : gH S h) (hW : gW S) (ho : o9 < 20) (ha : a < 20) (na : a ≠ o9) (hb : b < 20) (nb : b ≠ o9) (hBa : ∀ x k, x < gT S o9 1 → k < gT S a 2 → gB (gC S a (x * 4 + k))) (hBb : ∀ k y, k < gT S a 2 → y < gT S o9 2 → gB (gC S b (k * 4 + y))) : pm_Cn l G fi fi 0 0 M_Wk_multiplyTables [.ref (8 + 3 * a), .ref (8 + 3 * b), .ref (8 + 3 * o9)] h (g_Pw S o9 h (fun x y => g_dot (fun k => gC S a (x * 4 + k)) (fun k => gC S b (k * 4 + y)) (gT S a 2) 0 FP.dconst0) (gT S o9 1) (gT S o9 2) (.inl (none))) := by
  refine pm_Cn.of hl (by decide) (Nat.le_of_ble_eq_true rfl) ?_
  refine px (fun _ => pm_iconst (v := 0) (pc := 0) d_Wk_multiplyTables_0 rfl) ?_
  refine px (fun _ => pm_istore_n (lv' := [(3, .int (0)), (0, .ref (8 + 3 * a)), (1, .ref (8 + 3 * b)), (2, .ref (8 + 3 * o9))]) (pc := 1) d_Wk_multiplyTables_1 (by decide) rfl) ?_
  exact lpo_mul hl hW ho ha na hb nb hBa hBb (gT S o9 1) 0 (gC S o9) h (by rw [gsC_self]; exact H) (gFr.rf h) g_inv.z (by omega)
set_option maxHeartbeats 4000000 in
set_option maxRecDepth 20000 in
theorem lpk_sld {l : Launch} {G : pm_G} {fi : Bool} {S : gS} {h : pm_H} {Post : pm_O × pm_H → Prop} {f : Nat → UInt64} {a b o9 n p q : Nat} {i j : Nat} (hl : l.stackTraces = false) (hW : gW S) (ho : o9 < 20) (ha : a < 20) (na : a ≠ o9) (hb : b < 20) (nb : b ≠ o9) (hn : n < 14) (hp : gQ S n 0 = nI p) (hq : gQ S n 1 = nI q) (p2 : p ≤ 2) (q2 : q ≤ 2) (hra : gT S a 1 = gT S o9 1) (hBa : ∀ x k, x < gT S a 1 → k < gT S a 2 → gB (gC S a (x * 4 + k))) (hBb : ∀ k, k < gT S b 2 → gB (gC S b (0 * 4 + k))) (H : gH (gsC S o9 f) h) (hi : i < gT S o9 1) (hj : j < gT S o9 2) : ∀ (d k : Nat) (acc : UInt64), k + d = gT S b 2 → acc.toNat % 2 ^ 63 < (1090 + 2 * k) * 2 ^ 52 → pm_Px l G fi fi 0 0 M_Wk_slide 98 [(6, .double (g_dot (fun k => if q ≤ j * p + k ∧ j * p + k - q < gT S a 2 then gC S a (i * 4 + (j * p + k - q)) else FP.dconst0) (fun k => gC S b (0 * 4 + k)) d k acc)), (5, .int (nI j)), (4, .int (nI i)), (0, .ref (67 + 2 * n)), (1, .ref (8 + 3 * a)), (2, .ref (8 + 3 * b)), (3, .ref (8 + 3 * o9))] [] h Post → pm_Px l G fi fi 0 0 M_Wk_slide 30 [(8, .int (nI k)), (6, .double (acc)), (5, .int (nI j)), (4, .int (nI i)), (0, .ref (67 + 2 * n)), (1, .ref (8 + 3 * a)), (2, .ref (8 + 3 * b)), (3, .ref (8 + 3 * o9))] [] h Post := by
  have bo := hW.2.2.2.2.1 o9 ho
  have ba := hW.2.2.2.2.1 a ha
  have bb := hW.2.2.2.2.1 b hb
  have t_a : h[8 + 3 * a]? = some (pm_Ob 2 [.ref (9 + 3 * a), .int (nI (gT S a 0)), .int (nI (gT S a 1)), .int (nI (gT S a 2))]) := (H.2.2.2.2.2.2.1 a ha).2.1
  have t_b : h[8 + 3 * b]? = some (pm_Ob 2 [.ref (9 + 3 * b), .int (nI (gT S b 0)), .int (nI (gT S b 1)), .int (nI (gT S b 2))]) := (H.2.2.2.2.2.2.1 b hb).2.1
  have t_o9 : h[8 + 3 * o9]? = some (pm_Ob 2 [.ref (9 + 3 * o9), .int (nI (gT S o9 0)), .int (nI (gT S o9 1)), .int (nI (gT S o9 2))]) := (H.2.2.2.2.2.2.1 o9 ho).2.1
  have hnd : h[67 + 2 * n]? = some (pm_Ob 0 [.ref (68 + 2 * n), .int (nI (gN S n 0)), .int (nI (gN S n 1)), .int (nI (gN S n 2)), .int (nI p), .int (nI q), .int (nI (gN S n 3)), .int (nI (gN S n 4)), .int (nI (gN S n 5))]) := by
    first | rw [← hp, ← hq] | rw [← hp]
    exact (H.2.2.2.2.2.2.2 n hn).1
  intro d
  induction d with
  | zero =>
    intro k acc hk ha9 K
    have ek : k = gT S b 2 := by omega
    refine px (fun _ => pm_iload (pc := 30) d_Wk_slide_30 rfl) ?_
    refine px (fun _ => pm_aload_n (pc := 32) d_Wk_slide_32 rfl) ?_
    refine px (fun _ => pm_getf fl_Wk_58 (pc := 33) d_Wk_slide_33 t_b rfl) ?_
    refine pxb (fun _ => pm_icmp_ge (pc := 36) (tgt := 98) d_Wk_slide_36 (by decide)) (fun c_1 => ?_) (fun c_1 => absurd (by rw [ek]; exact (nI_leI (a := gT S b 2) (b := gT S b 2) (by omega) (by omega)).mpr (Nat.le_refl _)) c_1)
    refine pxd [1, 2, 3, 4, 5, 6, 7] rfl ?_
    exact K
  | succ d ih =>
    intro k acc hk ha9 K
    have hk4 : k < gT S b 2 := by omega
    have jp : j * p ≤ 8 := Nat.le_trans (Nat.mul_le_mul (show j ≤ 4 by omega) p2) (by omega)
    have nn := g_dot_ok (acc := acc) (k := k) (x := (fun k => if q ≤ j * p + k ∧ j * p + k - q < gT S a 2 then gC S a (i * 4 + (j * p + k - q)) else FP.dconst0) k) (y := (fun k => gC S b (0 * 4 + k)) k) (by omega) ha9 (by show gB (if _ then _ else _); split <;> first | exact g_B0 | exact hBa i _ (by omega) (by omega)) (hBb k hk4)
    refine px (fun _ => pm_iload (pc := 30) d_Wk_slide_30 rfl) ?_
    refine px (fun _ => pm_aload_n (pc := 32) d_Wk_slide_32 rfl) ?_
    refine px (fun _ => pm_getf fl_Wk_58 (pc := 33) d_Wk_slide_33 t_b rfl) ?_
    refine pxb (fun _ => pm_icmp_ge (pc := 36) (tgt := 98) d_Wk_slide_36 (by decide)) (fun c_1 => absurd c_1 (fun q => absurd ((nI_leI (a := gT S b 2) (b := k) (by omega) (by omega)).mp q) (by omega))) (fun c_1 => ?_)
    by_cases hin : q ≤ j * p + k ∧ j * p + k - q < gT S a 2
    · have ex : (fun k => if q ≤ j * p + k ∧ j * p + k - q < gT S a 2 then gC S a (i * 4 + (j * p + k - q)) else FP.dconst0) k = gC S a (i * 4 + (j * p + k - q)) := if_pos hin
      rw [ex] at nn
      have ed : g_dot (fun k => if q ≤ j * p + k ∧ j * p + k - q < gT S a 2 then gC S a (i * 4 + (j * p + k - q)) else FP.dconst0) (fun k => gC S b (0 * 4 + k)) (d + 1) k acc = g_dot (fun k => if q ≤ j * p + k ∧ j * p + k - q < gT S a 2 then gC S a (i * 4 + (j * p + k - q)) else FP.dconst0) (fun k => gC S b (0 * 4 + k)) d (k + 1) (FP.dadd acc (FP.dmul (gC S a (i * 4 + (j * p + k - q))) (gC S b (0 * 4 + k)))) := by simp only [g_dot]; rw [if_pos hin]
      rw [ed] at K
      refine px (fun _ => pm_iload (pc := 39) d_Wk_slide_39 rfl) ?_
      refine px (fun _ => pm_aload_n (pc := 41) d_Wk_slide_41 rfl) ?_
      refine px (fun _ => pm_getf fl_Wk_36 (pc := 42) d_Wk_slide_42 hnd rfl) ?_
      refine px (fun _ => pm_imulN (a := j) (b := p) (pc := 45) d_Wk_slide_45) ?_
      refine px (fun _ => pm_iload (pc := 46) d_Wk_slide_46 rfl) ?_
      refine px (fun _ => pm_iaddN (a := (j * p)) (b := k) (pc := 48) d_Wk_slide_48) ?_
      refine px (fun _ => pm_aload_n (pc := 49) d_Wk_slide_49 rfl) ?_
      refine px (fun _ => pm_getf fl_Wk_110 (pc := 50) d_Wk_slide_50 hnd rfl) ?_
      refine px (fun _ => pm_isubN (a := ((j * p) + k)) (b := q) (pc := 53) d_Wk_slide_53 (hin.1)) ?_
      refine px (fun _ => pm_istore (lv' := [(9, .int (nI (((j * p) + k) - q))), (8, .int (nI k)), (6, .double (acc)), (5, .int (nI j)), (4, .int (nI i)), (0, .ref (67 + 2 * n)), (1, .ref (8 + 3 * a)), (2, .ref (8 + 3 * b)), (3, .ref (8 + 3 * o9))]) (pc := 54) d_Wk_slide_54 (by decide) rfl) ?_
      refine px (fun _ => pm_dload (pc := 56) d_Wk_slide_56 rfl) ?_
      refine px (fun _ => pm_aload_n (pc := 58) d_Wk_slide_58 rfl) ?_
      refine px (fun _ => pm_iload (pc := 59) d_Wk_slide_59 rfl) ?_
      refine px (fun _ => pm_iload (pc := 61) d_Wk_slide_61 rfl) ?_
      refine px (fun _ => k_Wk_slide_63 (kc1 := 0) (ks1 := 0) (kc := 0) (ks := 0) (av := [.int (nI i), .int (nI (((j * p) + k) - q))]) (st := [.double (acc)]) t_a ((by have k9 := c_Tb_has (l := l) (G := G) (fi := fi) (i := nI i) (j := nI ((j * p + k) - q)) hl t_a; rw [if_pos ⟨nI_pos (by omega), fun q9 => absurd ((nI_leI (by omega) (by omega)).mp q9) (by omega), nI_pos (by omega), fun q9 => absurd ((nI_leI (by omega) (by omega)).mp q9) (by omega)⟩] at k9; exact k9)) rfl rfl (Nat.le_of_ble_eq_true rfl)) ?_
      refine pxb (fun _ => pm_if_eq (pc := 66) (tgt := 80) d_Wk_slide_66 (by decide)) (fun c_2 => absurd c_2 (by decide)) (fun c_2 => ?_)
      refine px (fun _ => pm_aload_n (pc := 69) d_Wk_slide_69 rfl) ?_
      refine px (fun _ => pm_iload (pc := 70) d_Wk_slide_70 rfl) ?_
      refine px (fun _ => pm_iload (pc := 72) d_Wk_slide_72 rfl) ?_
      refine px (fun _ => k_Wk_slide_74 (kc1 := 0) (ks1 := 0) (kc := 0) (ks := 0) (av := [.int (nI i), .int (nI (((j * p) + k) - q))]) (st := [.double (acc)]) t_a (c_atf (i := i) (j := j * p + k - q) hl H ha na (by omega) (by omega)) rfl rfl (Nat.le_of_ble_eq_true rfl)) ?_
      refine px (fun _ => pm_goto (tgt := 81) (pc := 77) d_Wk_slide_77 (by decide)) ?_
      refine px (fun _ => pm_aload_n (pc := 81) d_Wk_slide_81 rfl) ?_
      refine px (fun _ => pm_iconst (v := 0) (pc := 82) d_Wk_slide_82 rfl) ?_
      refine px (fun _ => pm_iload (pc := 83) d_Wk_slide_83 rfl) ?_
      refine px (fun _ => k_Wk_slide_85 (kc1 := 0) (ks1 := 0) (kc := 0) (ks := 0) (av := [.int (0), .int (nI k)]) (st := [.double (gC S a (i * 4 + (j * p + k - q))), .double (acc)]) t_b (c_atf (i := 0) (j := k) hl H hb nb (by omega) (by omega)) rfl rfl (Nat.le_of_ble_eq_true rfl)) ?_
      refine px (fun _ => pm_dmul (pc := 88) d_Wk_slide_88 (nn.1)) ?_
      refine px (fun _ => pm_dadd (pc := 89) d_Wk_slide_89 (nn.2.1)) ?_
      refine px (fun _ => pm_dstore (lv' := [(6, .double ((FP.dadd acc (FP.dmul (gC S a (i * 4 + (j * p + k - q))) (gC S b (0 * 4 + k)))))), (9, .int (nI (((j * p) + k) - q))), (8, .int (nI k)), (5, .int (nI j)), (4, .int (nI i)), (0, .ref (67 + 2 * n)), (1, .ref (8 + 3 * a)), (2, .ref (8 + 3 * b)), (3, .ref (8 + 3 * o9))]) (pc := 90) d_Wk_slide_90 (by decide) rfl) ?_
      refine px (fun _ => pm_iinc (x := nI k) (v := nI (k + 1)) (lv' := [(8, .int (nI (k + 1))), (6, .double ((FP.dadd acc (FP.dmul (gC S a (i * 4 + (j * p + k - q))) (gC S b (0 * 4 + k)))))), (9, .int (nI (((j * p) + k) - q))), (5, .int (nI j)), (4, .int (nI i)), (0, .ref (67 + 2 * n)), (1, .ref (8 + 3 * a)), (2, .ref (8 + 3 * b)), (3, .ref (8 + 3 * o9))]) (pc := 92) d_Wk_slide_92 rfl (nI_1 _) (by decide) rfl) ?_
      refine px (fun _ => pm_goto (tgt := 30) (pc := 95) d_Wk_slide_95 (by decide)) ?_
      refine pxd [0, 1, 3, 4, 5, 6, 7, 8] rfl ?_
      exact ih (k + 1) _ (by omega) nn.2.2 K
    · have ex : (fun k => if q ≤ j * p + k ∧ j * p + k - q < gT S a 2 then gC S a (i * 4 + (j * p + k - q)) else FP.dconst0) k = FP.dconst0 := if_neg hin
      rw [ex] at nn
      have ed : g_dot (fun k => if q ≤ j * p + k ∧ j * p + k - q < gT S a 2 then gC S a (i * 4 + (j * p + k - q)) else FP.dconst0) (fun k => gC S b (0 * 4 + k)) (d + 1) k acc = g_dot (fun k => if q ≤ j * p + k ∧ j * p + k - q < gT S a 2 then gC S a (i * 4 + (j * p + k - q)) else FP.dconst0) (fun k => gC S b (0 * 4 + k)) d (k + 1) (FP.dadd acc (FP.dmul FP.dconst0 (gC S b (0 * 4 + k)))) := by simp only [g_dot]; rw [if_neg hin]
      rw [ed] at K
      refine px (fun _ => pm_iload (pc := 39) d_Wk_slide_39 rfl) ?_
      refine px (fun _ => pm_aload_n (pc := 41) d_Wk_slide_41 rfl) ?_
      refine px (fun _ => pm_getf fl_Wk_36 (pc := 42) d_Wk_slide_42 hnd rfl) ?_
      refine px (fun _ => pm_imulN (a := j) (b := p) (pc := 45) d_Wk_slide_45) ?_
      refine px (fun _ => pm_iload (pc := 46) d_Wk_slide_46 rfl) ?_
      refine px (fun _ => pm_iaddN (a := (j * p)) (b := k) (pc := 48) d_Wk_slide_48) ?_
      refine px (fun _ => pm_aload_n (pc := 49) d_Wk_slide_49 rfl) ?_
      refine px (fun _ => pm_getf fl_Wk_110 (pc := 50) d_Wk_slide_50 hnd rfl) ?_
      refine px (fun _ => pm_isub (pc := 53) d_Wk_slide_53) ?_
      refine px (fun _ => pm_istore (lv' := [(9, .int ((nI ((j * p) + k) - nI q))), (8, .int (nI k)), (6, .double (acc)), (5, .int (nI j)), (4, .int (nI i)), (0, .ref (67 + 2 * n)), (1, .ref (8 + 3 * a)), (2, .ref (8 + 3 * b)), (3, .ref (8 + 3 * o9))]) (pc := 54) d_Wk_slide_54 (by decide) rfl) ?_
      refine px (fun _ => pm_dload (pc := 56) d_Wk_slide_56 rfl) ?_
      refine px (fun _ => pm_aload_n (pc := 58) d_Wk_slide_58 rfl) ?_
      refine px (fun _ => pm_iload (pc := 59) d_Wk_slide_59 rfl) ?_
      refine px (fun _ => pm_iload (pc := 61) d_Wk_slide_61 rfl) ?_
      refine px (fun _ => k_Wk_slide_63 (kc1 := 0) (ks1 := 0) (kc := 0) (ks := 0) (av := [.int (nI i), .int ((nI ((j * p) + k) - nI q))]) (st := [.double (acc)]) t_a ((by have k9 := c_Tb_has (l := l) (G := G) (fi := fi) (i := nI i) (j := nI (j * p + k) - nI q) hl t_a; rw [if_neg (fun q9 => g_hasN (by omega) (by omega) (by omega) hin q9.2.2.1 q9.2.2.2)] at k9; exact k9)) rfl rfl (Nat.le_of_ble_eq_true rfl)) ?_
      refine pxb (fun _ => pm_if_eq (pc := 66) (tgt := 80) d_Wk_slide_66 (by decide)) (fun c_3 => ?_) (fun c_3 => absurd (by decide) c_3)
      refine px (fun _ => pm_dconst0 (pc := 80) d_Wk_slide_80) ?_
      refine px (fun _ => pm_aload_n (pc := 81) d_Wk_slide_81 rfl) ?_
      refine px (fun _ => pm_iconst (v := 0) (pc := 82) d_Wk_slide_82 rfl) ?_
      refine px (fun _ => pm_iload (pc := 83) d_Wk_slide_83 rfl) ?_
      refine px (fun _ => k_Wk_slide_85 (kc1 := 0) (ks1 := 0) (kc := 0) (ks := 0) (av := [.int (0), .int (nI k)]) (st := [.double (FP.dconst0), .double (acc)]) t_b (c_atf (i := 0) (j := k) hl H hb nb (by omega) (by omega)) rfl rfl (Nat.le_of_ble_eq_true rfl)) ?_
      refine px (fun _ => pm_dmul (pc := 88) d_Wk_slide_88 (nn.1)) ?_
      refine px (fun _ => pm_dadd (pc := 89) d_Wk_slide_89 (nn.2.1)) ?_
      refine px (fun _ => pm_dstore (lv' := [(6, .double ((FP.dadd acc (FP.dmul FP.dconst0 (gC S b (0 * 4 + k)))))), (9, .int ((nI ((j * p) + k) - nI q))), (8, .int (nI k)), (5, .int (nI j)), (4, .int (nI i)), (0, .ref (67 + 2 * n)), (1, .ref (8 + 3 * a)), (2, .ref (8 + 3 * b)), (3, .ref (8 + 3 * o9))]) (pc := 90) d_Wk_slide_90 (by decide) rfl) ?_
      refine px (fun _ => pm_iinc (x := nI k) (v := nI (k + 1)) (lv' := [(8, .int (nI (k + 1))), (6, .double ((FP.dadd acc (FP.dmul FP.dconst0 (gC S b (0 * 4 + k)))))), (9, .int ((nI ((j * p) + k) - nI q))), (5, .int (nI j)), (4, .int (nI i)), (0, .ref (67 + 2 * n)), (1, .ref (8 + 3 * a)), (2, .ref (8 + 3 * b)), (3, .ref (8 + 3 * o9))]) (pc := 92) d_Wk_slide_92 rfl (nI_1 _) (by decide) rfl) ?_
      refine px (fun _ => pm_goto (tgt := 30) (pc := 95) d_Wk_slide_95 (by decide)) ?_
      refine pxd [0, 1, 3, 4, 5, 6, 7, 8] rfl ?_
      exact ih (k + 1) _ (by omega) nn.2.2 K
set_option maxHeartbeats 4000000 in
set_option maxRecDepth 20000 in
theorem lpi_sld {l : Launch} {G : pm_G} {fi : Bool} {S : gS} {h0 : pm_H} {a b o9 n p q : Nat} (hl : l.stackTraces = false) (hW : gW S) (ho : o9 < 20) (ha : a < 20) (na : a ≠ o9) (hb : b < 20) (nb : b ≠ o9) (hn : n < 14) (hp : gQ S n 0 = nI p) (hq : gQ S n 1 = nI q) (p2 : p ≤ 2) (q2 : q ≤ 2) (hra : gT S a 1 = gT S o9 1) (hBa : ∀ x k, x < gT S a 1 → k < gT S a 2 → gB (gC S a (x * 4 + k))) (hBb : ∀ k, k < gT S b 2 → gB (gC S b (0 * 4 + k))) : ∀ (d i j : Nat) (f : Nat → UInt64) (h : pm_H), gH (gsC S o9 f) h → gFr h0 h → g_inv (fun x y => g_dot (fun k => if q ≤ y * p + k ∧ y * p + k - q < gT S a 2 then gC S a (x * 4 + (y * p + k - q)) else FP.dconst0) (fun k => gC S b (0 * 4 + k)) (gT S b 2) 0 FP.dconst0) (gT S o9 2) f (i) (j) → i < gT S o9 1 → j + d = gT S o9 2 → (∀ f1 h1, gH (gsC S o9 f1) h1 → gFr h0 h1 → g_inv (fun x y => g_dot (fun k => if q ≤ y * p + k ∧ y * p + k - q < gT S a 2 then gC S a (x * 4 + (y * p + k - q)) else FP.dconst0) (fun k => gC S b (0 * 4 + k)) (gT S b 2) 0 FP.dconst0) (gT S o9 2) f1 (i + 1) (0) → pm_Px l G fi fi 0 0 M_Wk_slide 3 [(4, .int (nI (i + 1))), (0, .ref (67 + 2 * n)), (1, .ref (8 + 3 * a)), (2, .ref (8 + 3 * b)), (3, .ref (8 + 3 * o9))] [] h1 (g_Pw S o9 h0 (fun x y => g_dot (fun k => if q ≤ y * p + k ∧ y * p + k - q < gT S a 2 then gC S a (x * 4 + (y * p + k - q)) else FP.dconst0) (fun k => gC S b (0 * 4 + k)) (gT S b 2) 0 FP.dconst0) (gT S o9 1) (gT S o9 2) (.inl (none)))) → pm_Px l G fi fi 0 0 M_Wk_slide 15 [(5, .int (nI j)), (4, .int (nI i)), (0, .ref (67 + 2 * n)), (1, .ref (8 + 3 * a)), (2, .ref (8 + 3 * b)), (3, .ref (8 + 3 * o9))] [] h (g_Pw S o9 h0 (fun x y => g_dot (fun k => if q ≤ y * p + k ∧ y * p + k - q < gT S a 2 then gC S a (x * 4 + (y * p + k - q)) else FP.dconst0) (fun k => gC S b (0 * 4 + k)) (gT S b 2) 0 FP.dconst0) (gT S o9 1) (gT S o9 2) (.inl (none))) := by
  intro d
  induction d with
  | zero =>
    intro i j f h H F iv hi hd9 K
    have bo := hW.2.2.2.2.1 o9 ho
    have t_a : h[8 + 3 * a]? = some (pm_Ob 2 [.ref (9 + 3 * a), .int (nI (gT S a 0)), .int (nI (gT S a 1)), .int (nI (gT S a 2))]) := (H.2.2.2.2.2.2.1 a ha).2.1
    have t_b : h[8 + 3 * b]? = some (pm_Ob 2 [.ref (9 + 3 * b), .int (nI (gT S b 0)), .int (nI (gT S b 1)), .int (nI (gT S b 2))]) := (H.2.2.2.2.2.2.1 b hb).2.1
    have t_o9 : h[8 + 3 * o9]? = some (pm_Ob 2 [.ref (9 + 3 * o9), .int (nI (gT S o9 0)), .int (nI (gT S o9 1)), .int (nI (gT S o9 2))]) := (H.2.2.2.2.2.2.1 o9 ho).2.1
    have ej : j = gT S o9 2 := by omega
    refine px (fun _ => pm_iload (pc := 15) d_Wk_slide_15 rfl) ?_
    refine px (fun _ => pm_aload_n (pc := 17) d_Wk_slide_17 rfl) ?_
    refine px (fun _ => pm_getf fl_Wk_58 (pc := 18) d_Wk_slide_18 t_o9 rfl) ?_
    refine pxb (fun _ => pm_icmp_ge (pc := 21) (tgt := 114) d_Wk_slide_21 (by decide)) (fun c_1 => ?_) (fun c_1 => absurd (by rw [ej]; exact (nI_leI (a := gT S o9 2) (b := gT S o9 2) (by omega) (by omega)).mpr (Nat.le_refl _)) c_1)
    refine px (fun _ => pm_iinc (x := nI i) (v := nI (i + 1)) (lv' := [(4, .int (nI (i + 1))), (5, .int (nI j)), (0, .ref (67 + 2 * n)), (1, .ref (8 + 3 * a)), (2, .ref (8 + 3 * b)), (3, .ref (8 + 3 * o9))]) (pc := 114) d_Wk_slide_114 rfl (nI_1 _) (by decide) rfl) ?_
    refine px (fun _ => pm_goto (tgt := 3) (pc := 117) d_Wk_slide_117 (by decide)) ?_
    refine pxd [0, 2, 3, 4, 5] rfl ?_
    exact K f h H F (by rw [ej] at iv; exact iv.row)
  | succ d ih =>
    intro i j f h H F iv hi hd9 K
    have bo := hW.2.2.2.2.1 o9 ho
    have t_a : h[8 + 3 * a]? = some (pm_Ob 2 [.ref (9 + 3 * a), .int (nI (gT S a 0)), .int (nI (gT S a 1)), .int (nI (gT S a 2))]) := (H.2.2.2.2.2.2.1 a ha).2.1
    have t_b : h[8 + 3 * b]? = some (pm_Ob 2 [.ref (9 + 3 * b), .int (nI (gT S b 0)), .int (nI (gT S b 1)), .int (nI (gT S b 2))]) := (H.2.2.2.2.2.2.1 b hb).2.1
    have t_o9 : h[8 + 3 * o9]? = some (pm_Ob 2 [.ref (9 + 3 * o9), .int (nI (gT S o9 0)), .int (nI (gT S o9 1)), .int (nI (gT S o9 2))]) := (H.2.2.2.2.2.2.1 o9 ho).2.1
    have hj : j < gT S o9 2 := by omega
    have hi4 : i < 4 := by omega
    have hj4 : j < 4 := by omega
    refine px (fun _ => pm_iload (pc := 15) d_Wk_slide_15 rfl) ?_
    refine px (fun _ => pm_aload_n (pc := 17) d_Wk_slide_17 rfl) ?_
    refine px (fun _ => pm_getf fl_Wk_58 (pc := 18) d_Wk_slide_18 t_o9 rfl) ?_
    refine pxb (fun _ => pm_icmp_ge (pc := 21) (tgt := 114) d_Wk_slide_21 (by decide)) (fun c_1 => absurd c_1 (fun q => absurd ((nI_leI (a := gT S o9 2) (b := j) (by omega) (by omega)).mp q) (by omega))) (fun c_1 => ?_)
    refine px (fun _ => pm_dconst0 (pc := 24) d_Wk_slide_24) ?_
    refine px (fun _ => pm_dstore (lv' := [(6, .double (FP.dconst0)), (5, .int (nI j)), (4, .int (nI i)), (0, .ref (67 + 2 * n)), (1, .ref (8 + 3 * a)), (2, .ref (8 + 3 * b)), (3, .ref (8 + 3 * o9))]) (pc := 25) d_Wk_slide_25 (by decide) rfl) ?_
    refine px (fun _ => pm_iconst (v := 0) (pc := 27) d_Wk_slide_27 rfl) ?_
    refine px (fun _ => pm_istore (lv' := [(8, .int (0)), (6, .double (FP.dconst0)), (5, .int (nI j)), (4, .int (nI i)), (0, .ref (67 + 2 * n)), (1, .ref (8 + 3 * a)), (2, .ref (8 + 3 * b)), (3, .ref (8 + 3 * o9))]) (pc := 28) d_Wk_slide_28 (by decide) rfl) ?_
    refine pxd [0, 1, 2, 3, 4, 5, 6, 7] rfl ?_
    refine lpk_sld hl hW ho ha na hb nb hn hp hq p2 q2 hra hBa hBb H hi hj (gT S b 2) 0 FP.dconst0 (by omega) (by decide) ?_
    refine px (fun _ => pm_aload_n (pc := 98) d_Wk_slide_98 rfl) ?_
    refine px (fun _ => pm_iload (pc := 99) d_Wk_slide_99 rfl) ?_
    refine px (fun _ => pm_iload (pc := 101) d_Wk_slide_101 rfl) ?_
    refine px (fun _ => pm_dload (pc := 103) d_Wk_slide_103 rfl) ?_
    obtain ⟨⟨o2, h2⟩, ⟨e2, H2, F2⟩, en2⟩ := c_putf (l := l) (G := G) (fi := fi) (v := g_dot (fun k => if q ≤ j * p + k ∧ j * p + k - q < gT S a 2 then gC S a (i * 4 + (j * p + k - q)) else FP.dconst0) (fun k => gC S b (0 * 4 + k)) (gT S b 2) 0 FP.dconst0) hl H hW ho (i := i) (j := j) (by omega) (by omega)
    dsimp only at e2 H2 F2
    subst e2
    refine px (fun _ => k_Wk_slide_105 (kc1 := 0) (ks1 := 0) (kc := 0) (ks := 0) (av := [.int (nI i), .int (nI j), .double (g_dot (fun k => if q ≤ j * p + k ∧ j * p + k - q < gT S a 2 then gC S a (i * 4 + (j * p + k - q)) else FP.dconst0) (fun k => gC S b (0 * 4 + k)) (gT S b 2) 0 FP.dconst0)]) (st := []) t_o9 (en2) rfl rfl (Nat.le_of_ble_eq_true rfl)) ?_
    refine px (fun _ => pm_iinc (x := nI j) (v := nI (j + 1)) (lv' := [(5, .int (nI (j + 1))), (6, .double (g_dot (fun k => if q ≤ j * p + k ∧ j * p + k - q < gT S a 2 then gC S a (i * 4 + (j * p + k - q)) else FP.dconst0) (fun k => gC S b (0 * 4 + k)) (gT S b 2) 0 FP.dconst0)), (4, .int (nI i)), (0, .ref (67 + 2 * n)), (1, .ref (8 + 3 * a)), (2, .ref (8 + 3 * b)), (3, .ref (8 + 3 * o9))]) (pc := 108) d_Wk_slide_108 rfl (nI_1 _) (by decide) rfl) ?_
    refine px (fun _ => pm_goto (tgt := 15) (pc := 111) d_Wk_slide_111 (by decide)) ?_
    refine pxd [0, 2, 3, 4, 5, 6] rfl ?_
    exact ih i (j + 1) _ _ H2 (F.tr F2) (iv.step (by omega) hj (rfl)) hi (by omega) K
set_option maxHeartbeats 4000000 in
set_option maxRecDepth 20000 in
theorem lpo_sld {l : Launch} {G : pm_G} {fi : Bool} {S : gS} {h0 : pm_H} {a b o9 n p q : Nat} (hl : l.stackTraces = false) (hW : gW S) (ho : o9 < 20) (ha : a < 20) (na : a ≠ o9) (hb : b < 20) (nb : b ≠ o9) (hn : n < 14) (hp : gQ S n 0 = nI p) (hq : gQ S n 1 = nI q) (p2 : p ≤ 2) (q2 : q ≤ 2) (hra : gT S a 1 = gT S o9 1) (hBa : ∀ x k, x < gT S a 1 → k < gT S a 2 → gB (gC S a (x * 4 + k))) (hBb : ∀ k, k < gT S b 2 → gB (gC S b (0 * 4 + k))) : ∀ (d i : Nat) (f : Nat → UInt64) (h : pm_H), gH (gsC S o9 f) h → gFr h0 h → g_inv (fun x y => g_dot (fun k => if q ≤ y * p + k ∧ y * p + k - q < gT S a 2 then gC S a (x * 4 + (y * p + k - q)) else FP.dconst0) (fun k => gC S b (0 * 4 + k)) (gT S b 2) 0 FP.dconst0) (gT S o9 2) f (i) (0) → i + d = gT S o9 1 → pm_Px l G fi fi 0 0 M_Wk_slide 3 [(4, .int (nI i)), (0, .ref (67 + 2 * n)), (1, .ref (8 + 3 * a)), (2, .ref (8 + 3 * b)), (3, .ref (8 + 3 * o9))] [] h (g_Pw S o9 h0 (fun x y => g_dot (fun k => if q ≤ y * p + k ∧ y * p + k - q < gT S a 2 then gC S a (x * 4 + (y * p + k - q)) else FP.dconst0) (fun k => gC S b (0 * 4 + k)) (gT S b 2) 0 FP.dconst0) (gT S o9 1) (gT S o9 2) (.inl (none))) := by
  intro d
  induction d with
  | zero =>
    intro i f h H F iv hd9
    have bo := hW.2.2.2.2.1 o9 ho
    have t_a : h[8 + 3 * a]? = some (pm_Ob 2 [.ref (9 + 3 * a), .int (nI (gT S a 0)), .int (nI (gT S a 1)), .int (nI (gT S a 2))]) := (H.2.2.2.2.2.2.1 a ha).2.1
    have t_b : h[8 + 3 * b]? = some (pm_Ob 2 [.ref (9 + 3 * b), .int (nI (gT S b 0)), .int (nI (gT S b 1)), .int (nI (gT S b 2))]) := (H.2.2.2.2.2.2.1 b hb).2.1
    have t_o9 : h[8 + 3 * o9]? = some (pm_Ob 2 [.ref (9 + 3 * o9), .int (nI (gT S o9 0)), .int (nI (gT S o9 1)), .int (nI (gT S o9 2))]) := (H.2.2.2.2.2.2.1 o9 ho).2.1
    have ei : i = gT S o9 1 := by omega
    refine px (fun _ => pm_iload (pc := 3) d_Wk_slide_3 rfl) ?_
    refine px (fun _ => pm_aload_n (pc := 5) d_Wk_slide_5 rfl) ?_
    refine px (fun _ => pm_getf fl_Wk_53 (pc := 6) d_Wk_slide_6 t_o9 rfl) ?_
    refine pxb (fun _ => pm_icmp_ge (pc := 9) (tgt := 120) d_Wk_slide_9 (by decide)) (fun c_1 => ?_) (fun c_1 => absurd (by rw [ei]; exact (nI_leI (a := gT S o9 1) (b := gT S o9 1) (by omega) (by omega)).mpr (Nat.le_refl _)) c_1)
    exact pxr (pm_vret (pc := 120) d_Wk_slide_120 rfl) ⟨rfl, f, H, F, by rw [ei] at iv; exact iv⟩
  | succ d ih =>
    intro i f h H F iv hd9
    have bo := hW.2.2.2.2.1 o9 ho
    have t_a : h[8 + 3 * a]? = some (pm_Ob 2 [.ref (9 + 3 * a), .int (nI (gT S a 0)), .int (nI (gT S a 1)), .int (nI (gT S a 2))]) := (H.2.2.2.2.2.2.1 a ha).2.1
    have t_b : h[8 + 3 * b]? = some (pm_Ob 2 [.ref (9 + 3 * b), .int (nI (gT S b 0)), .int (nI (gT S b 1)), .int (nI (gT S b 2))]) := (H.2.2.2.2.2.2.1 b hb).2.1
    have t_o9 : h[8 + 3 * o9]? = some (pm_Ob 2 [.ref (9 + 3 * o9), .int (nI (gT S o9 0)), .int (nI (gT S o9 1)), .int (nI (gT S o9 2))]) := (H.2.2.2.2.2.2.1 o9 ho).2.1
    refine px (fun _ => pm_iload (pc := 3) d_Wk_slide_3 rfl) ?_
    refine px (fun _ => pm_aload_n (pc := 5) d_Wk_slide_5 rfl) ?_
    refine px (fun _ => pm_getf fl_Wk_53 (pc := 6) d_Wk_slide_6 t_o9 rfl) ?_
    refine pxb (fun _ => pm_icmp_ge (pc := 9) (tgt := 120) d_Wk_slide_9 (by decide)) (fun c_1 => absurd c_1 (fun q => absurd ((nI_leI (a := gT S o9 1) (b := i) (by omega) (by omega)).mp q) (by omega))) (fun c_1 => ?_)
    refine px (fun _ => pm_iconst (v := 0) (pc := 12) d_Wk_slide_12 rfl) ?_
    refine px (fun _ => pm_istore (lv' := [(5, .int (0)), (4, .int (nI i)), (0, .ref (67 + 2 * n)), (1, .ref (8 + 3 * a)), (2, .ref (8 + 3 * b)), (3, .ref (8 + 3 * o9))]) (pc := 13) d_Wk_slide_13 (by decide) rfl) ?_
    refine pxd [0, 1, 2, 3, 4, 5] rfl ?_
    exact lpi_sld hl hW ho ha na hb nb hn hp hq p2 q2 hra hBa hBb (gT S o9 2) i 0 f h H F iv (by omega) (by omega) (fun f1 h1 a1 a2 a3 => ih (i + 1) f1 h1 a1 a2 a3 (by omega))
set_option maxHeartbeats 4000000 in
set_option maxRecDepth 20000 in
theorem w_sld {l : Launch} {G : pm_G} {fi : Bool} {h : pm_H} {S : gS} {a b o9 n p q : Nat} (hl : l.stackTraces = false) (H : gH S h) (hW : gW S) (ho : o9 < 20) (ha : a < 20) (na : a ≠ o9) (hb : b < 20) (nb : b ≠ o9) (hn : n < 14) (hp : gQ S n 0 = nI p) (hq : gQ S n 1 = nI q) (p2 : p ≤ 2) (q2 : q ≤ 2) (hra : gT S a 1 = gT S o9 1) (hBa : ∀ x k, x < gT S a 1 → k < gT S a 2 → gB (gC S a (x * 4 + k))) (hBb : ∀ k, k < gT S b 2 → gB (gC S b (0 * 4 + k))) : pm_Cn l G fi fi 0 0 M_Wk_slide [.ref (67 + 2 * n), .ref (8 + 3 * a), .ref (8 + 3 * b), .ref (8 + 3 * o9)] h (g_Pw S o9 h (fun x y => g_dot (fun k => if q ≤ y * p + k ∧ y * p + k - q < gT S a 2 then gC S a (x * 4 + (y * p + k - q)) else FP.dconst0) (fun k => gC S b (0 * 4 + k)) (gT S b 2) 0 FP.dconst0) (gT S o9 1) (gT S o9 2) (.inl (none))) := by
  refine pm_Cn.of hl (by decide) (Nat.le_of_ble_eq_true rfl) ?_
  refine px (fun _ => pm_iconst (v := 0) (pc := 0) d_Wk_slide_0 rfl) ?_
  refine px (fun _ => pm_istore (lv' := [(4, .int (0)), (0, .ref (67 + 2 * n)), (1, .ref (8 + 3 * a)), (2, .ref (8 + 3 * b)), (3, .ref (8 + 3 * o9))]) (pc := 1) d_Wk_slide_1 (by decide) rfl) ?_
  exact lpo_sld hl hW ho ha na hb nb hn hp hq p2 q2 hra hBa hBb (gT S o9 1) 0 (gC S o9) h (by rw [gsC_self]; exact H) (gFr.rf h) g_inv.z (by omega)
