/-! ===== the class: Work over cells ===== -/
def g_inv (E : Nat → Nat → UInt64) (co : Nat) (f : Nat → UInt64) (i j : Nat) : Prop := ∀ x y, y < co → (x < i ∨ x = i ∧ y < j) → f (x * 4 + y) = E x y
theorem g_inv.z {E : Nat → Nat → UInt64} {co : Nat} {f : Nat → UInt64} : g_inv E co f 0 0 := fun x y _ q => by omega
theorem g_inv.row {E : Nat → Nat → UInt64} {co i : Nat} {f : Nat → UInt64} (h : g_inv E co f i co) : g_inv E co f (i + 1) 0 := fun x y hy q => h x y hy (by omega)
theorem g_inv.step {E : Nat → Nat → UInt64} {co i j : Nat} {f : Nat → UInt64} {v : UInt64} (h : g_inv E co f i j) (hc : co ≤ 4) (hj : j < co) (hv : v = E i j) : g_inv E co (va_up f (i * 4 + j) v) i (j + 1) := by
  intro x y hy q
  simp only [va_up]
  by_cases e : x * 4 + y = i * 4 + j
  · rw [if_pos e, hv, show x = i by omega, show y = j by omega]
  · rw [if_neg e]
    exact h x y hy (by omega)
abbrev g_Pw (S : gS) (o9 : Nat) (h : pm_H) (E : Nat → Nat → UInt64) (ro co : Nat) (res : pm_O) : pm_O × pm_H → Prop := fun r => r.1 = res ∧ ∃ f, gH (gsC S o9 f) r.2 ∧ gFr h r.2 ∧ g_inv E co f ro 0
def g_one (S : gS) (n : Nat) (x : UInt64) : UInt64 := match gN S n 1 with
  | 5 => if fGt x FP.dconst0 then x else FP.dconst0
  | 7 => if gQ S n 0 = 1 then FP.i2d (FP.d2i x) else x
  | _ => if fLt x (FP.i2d (gQ S n 0)) then FP.i2d (gQ S n 0) else if fGt x (FP.i2d (gQ S n 1)) then FP.i2d (gQ S n 1) else x
set_option maxHeartbeats 4000000 in
set_option maxRecDepth 20000 in
theorem c_one5 {l : Launch} {G : pm_G} {fi : Bool} {h : pm_H} {S : gS} {n : Nat} {x : UInt64} (hl : l.stackTraces = false) (H : gH S h) (hn : n < 14) (hop : gN S n 1 = 5) : pm_En l G fi fi 0 0 M_Wk_ofOne [.ref (67 + 2 * n), .double (x)] h (.inl (some (.double (g_one S n x))), h) := by
  refine pm_Cn.eq (pm_Cn.of hl (by decide) (Nat.le_of_ble_eq_true rfl) ?_)
  refine px (fun _ => pm_aload_n (pc := 0) d_Wk_ofOne_0 rfl) ?_
  refine px (fun _ => pm_getf fl_Wk_9 (pc := 1) d_Wk_ofOne_1 (H.2.2.2.2.2.2.2 n hn).1 rfl) ?_
  have tx_4 : (nI (gN S n 1) : Int32).toInt = 5 := by rw [hop]; rfl
  refine px (fun _ => pm_look (off := 28) (tgt := 32) (pc := 4) d_Wk_ofOne_4 (by decide) (by rw [tx_4]; rfl) (by decide)) ?_
  refine px (fun _ => pm_dload_n (pc := 32) d_Wk_ofOne_32 rfl) ?_
  refine px (fun _ => pm_dconst0 (pc := 33) d_Wk_ofOne_33) ?_
  refine px (fun _ => pm_dcmp (pc := 34) d_Wk_ofOne_34) ?_
  refine pxb (fun _ => pm_if_le (pc := 35) (tgt := 42) d_Wk_ofOne_35 (by decide)) (fun c_1 => ?_) (fun c_1 => ?_)
  · refine px (fun _ => pm_dconst0 (pc := 42) d_Wk_ofOne_42) ?_
    exact pxr (pm_dret (pc := 43) d_Wk_ofOne_43 rfl) (by simp only [g_one, hop]; rw [if_neg (fun q => q (by assumption))])
  · refine px (fun _ => pm_dload_n (pc := 38) d_Wk_ofOne_38 rfl) ?_
    refine px (fun _ => pm_goto (tgt := 43) (pc := 39) d_Wk_ofOne_39 (by decide)) ?_
    exact pxr (pm_dret (pc := 43) d_Wk_ofOne_43 rfl) (by simp only [g_one, hop]; rw [if_pos (by assumption)])
set_option maxHeartbeats 4000000 in
set_option maxRecDepth 20000 in
theorem c_one7 {l : Launch} {G : pm_G} {fi : Bool} {h : pm_H} {S : gS} {n : Nat} {x : UInt64} (hl : l.stackTraces = false) (H : gH S h) (hn : n < 14) (hop : gN S n 1 = 7) : pm_En l G fi fi 0 0 M_Wk_ofOne [.ref (67 + 2 * n), .double (x)] h (.inl (some (.double (g_one S n x))), h) := by
  refine pm_Cn.eq (pm_Cn.of hl (by decide) (Nat.le_of_ble_eq_true rfl) ?_)
  refine px (fun _ => pm_aload_n (pc := 0) d_Wk_ofOne_0 rfl) ?_
  refine px (fun _ => pm_getf fl_Wk_9 (pc := 1) d_Wk_ofOne_1 (H.2.2.2.2.2.2.2 n hn).1 rfl) ?_
  have tx_4 : (nI (gN S n 1) : Int32).toInt = 7 := by rw [hop]; rfl
  refine px (fun _ => pm_look (off := 40) (tgt := 44) (pc := 4) d_Wk_ofOne_4 (by decide) (by rw [tx_4]; rfl) (by decide)) ?_
  refine px (fun _ => pm_aload_n (pc := 44) d_Wk_ofOne_44 rfl) ?_
  refine px (fun _ => pm_getf fl_Wk_36 (pc := 45) d_Wk_ofOne_45 (H.2.2.2.2.2.2.2 n hn).1 rfl) ?_
  refine px (fun _ => pm_iconst (v := 1) (pc := 48) d_Wk_ofOne_48 rfl) ?_
  refine pxn (fun _ => pm_icmp_ne (pc := 49) (tgt := 58) d_Wk_ofOne_49 (by decide)) (fun c_1 => ?_) (fun c_1 => ?_)
  · refine px (fun _ => pm_dload_n (pc := 58) d_Wk_ofOne_58 rfl) ?_
    exact pxr (pm_dret (pc := 59) d_Wk_ofOne_59 rfl) (by simp only [g_one, hop]; rw [if_neg (by assumption)])
  · refine px (fun _ => pm_dload_n (pc := 52) d_Wk_ofOne_52 rfl) ?_
    refine px (fun _ => pm_d2i (pc := 53) d_Wk_ofOne_53) ?_
    refine px (fun _ => pm_i2d (pc := 54) d_Wk_ofOne_54) ?_
    refine px (fun _ => pm_goto (tgt := 59) (pc := 55) d_Wk_ofOne_55 (by decide)) ?_
    exact pxr (pm_dret (pc := 59) d_Wk_ofOne_59 rfl) (by simp only [g_one, hop]; rw [if_pos (by assumption)])
set_option maxHeartbeats 4000000 in
set_option maxRecDepth 20000 in
theorem c_one18 {l : Launch} {G : pm_G} {fi : Bool} {h : pm_H} {S : gS} {n : Nat} {x : UInt64} (hl : l.stackTraces = false) (H : gH S h) (hn : n < 14) (hop : gN S n 1 = 18) : pm_En l G fi fi 0 0 M_Wk_ofOne [.ref (67 + 2 * n), .double (x)] h (.inl (some (.double (g_one S n x))), h) := by
  refine pm_Cn.eq (pm_Cn.of hl (by decide) (Nat.le_of_ble_eq_true rfl) ?_)
  refine px (fun _ => pm_aload_n (pc := 0) d_Wk_ofOne_0 rfl) ?_
  refine px (fun _ => pm_getf fl_Wk_9 (pc := 1) d_Wk_ofOne_1 (H.2.2.2.2.2.2.2 n hn).1 rfl) ?_
  have tx_4 : (nI (gN S n 1) : Int32).toInt = 18 := by rw [hop]; rfl
  refine px (fun _ => pm_look (off := 56) (tgt := 60) (pc := 4) d_Wk_ofOne_4 (by decide) (by rw [tx_4]; rfl) (by decide)) ?_
  refine px (fun _ => pm_dload_n (pc := 60) d_Wk_ofOne_60 rfl) ?_
  refine px (fun _ => pm_aload_n (pc := 61) d_Wk_ofOne_61 rfl) ?_
  refine px (fun _ => pm_getf fl_Wk_36 (pc := 62) d_Wk_ofOne_62 (H.2.2.2.2.2.2.2 n hn).1 rfl) ?_
  refine px (fun _ => pm_i2d (pc := 65) d_Wk_ofOne_65) ?_
  refine px (fun _ => pm_dcmp (pc := 66) d_Wk_ofOne_66) ?_
  refine pxb (fun _ => pm_if_ge (pc := 67) (tgt := 78) d_Wk_ofOne_67 (by decide)) (fun c_1 => ?_) (fun c_1 => ?_)
  · refine px (fun _ => pm_dload_n (pc := 78) d_Wk_ofOne_78 rfl) ?_
    refine px (fun _ => pm_aload_n (pc := 79) d_Wk_ofOne_79 rfl) ?_
    refine px (fun _ => pm_getf fl_Wk_110 (pc := 80) d_Wk_ofOne_80 (H.2.2.2.2.2.2.2 n hn).1 rfl) ?_
    refine px (fun _ => pm_i2d (pc := 83) d_Wk_ofOne_83) ?_
    refine px (fun _ => pm_dcmp (pc := 84) d_Wk_ofOne_84) ?_
    refine pxb (fun _ => pm_if_le (pc := 85) (tgt := 96) d_Wk_ofOne_85 (by decide)) (fun c_2 => ?_) (fun c_2 => ?_)
    · refine px (fun _ => pm_dload_n (pc := 96) d_Wk_ofOne_96 rfl) ?_
      exact pxr (pm_dret (pc := 97) d_Wk_ofOne_97 rfl) (by simp only [g_one, hop]; rw [if_neg (fun q => q (by assumption)), if_neg (fun q => q (by assumption))])
    · refine px (fun _ => pm_aload_n (pc := 88) d_Wk_ofOne_88 rfl) ?_
      refine px (fun _ => pm_getf fl_Wk_110 (pc := 89) d_Wk_ofOne_89 (H.2.2.2.2.2.2.2 n hn).1 rfl) ?_
      refine px (fun _ => pm_i2d (pc := 92) d_Wk_ofOne_92) ?_
      refine px (fun _ => pm_goto (tgt := 97) (pc := 93) d_Wk_ofOne_93 (by decide)) ?_
      exact pxr (pm_dret (pc := 97) d_Wk_ofOne_97 rfl) (by simp only [g_one, hop]; rw [if_neg (fun q => q (by assumption)), if_pos (by assumption)])
  · refine px (fun _ => pm_aload_n (pc := 70) d_Wk_ofOne_70 rfl) ?_
    refine px (fun _ => pm_getf fl_Wk_36 (pc := 71) d_Wk_ofOne_71 (H.2.2.2.2.2.2.2 n hn).1 rfl) ?_
    refine px (fun _ => pm_i2d (pc := 74) d_Wk_ofOne_74) ?_
    refine px (fun _ => pm_goto (tgt := 97) (pc := 75) d_Wk_ofOne_75 (by decide)) ?_
    exact pxr (pm_dret (pc := 97) d_Wk_ofOne_97 rfl) (by simp only [g_one, hop]; rw [if_pos (by assumption)])
set_option maxHeartbeats 4000000 in
set_option maxRecDepth 20000 in
theorem lpi_turn {l : Launch} {G : pm_G} {fi : Bool} {S : gS} {h0 : pm_H} {a o9 : Nat} (hl : l.stackTraces = false) (hW : gW S) (ho : o9 < 20) (ha : a < 20) (na : a ≠ o9) : ∀ (d i j : Nat) (f : Nat → UInt64) (h : pm_H), gH (gsC S o9 f) h → gFr h0 h → g_inv (fun x y => gC S a (y * 4 + x)) (gT S o9 2) f (i) (j) → i < gT S o9 1 → j + d = gT S o9 2 → (∀ f1 h1, gH (gsC S o9 f1) h1 → gFr h0 h1 → g_inv (fun x y => gC S a (y * 4 + x)) (gT S o9 2) f1 (i + 1) (0) → pm_Px l G fi fi 0 0 M_Wk_turn 2 [(2, .int (nI (i + 1))), (0, .ref (8 + 3 * a)), (1, .ref (8 + 3 * o9))] [] h1 (g_Pw S o9 h0 (fun x y => gC S a (y * 4 + x)) (gT S o9 1) (gT S o9 2) (.inl (none)))) → pm_Px l G fi fi 0 0 M_Wk_turn 12 [(3, .int (nI j)), (2, .int (nI i)), (0, .ref (8 + 3 * a)), (1, .ref (8 + 3 * o9))] [] h (g_Pw S o9 h0 (fun x y => gC S a (y * 4 + x)) (gT S o9 1) (gT S o9 2) (.inl (none))) := by
  intro d
  induction d with
  | zero =>
    intro i j f h H F iv hi hd9 K
    have bo := hW.2.2.2.2.1 o9 ho
    have t_a : h[8 + 3 * a]? = some (pm_Ob 2 [.ref (9 + 3 * a), .int (nI (gT S a 0)), .int (nI (gT S a 1)), .int (nI (gT S a 2))]) := (H.2.2.2.2.2.2.1 a ha).2.1
    have t_o9 : h[8 + 3 * o9]? = some (pm_Ob 2 [.ref (9 + 3 * o9), .int (nI (gT S o9 0)), .int (nI (gT S o9 1)), .int (nI (gT S o9 2))]) := (H.2.2.2.2.2.2.1 o9 ho).2.1
    have ej : j = gT S o9 2 := by omega
    refine px (fun _ => pm_iload_n (pc := 12) d_Wk_turn_12 rfl) ?_
    refine px (fun _ => pm_aload_n (pc := 13) d_Wk_turn_13 rfl) ?_
    refine px (fun _ => pm_getf fl_Wk_58 (pc := 14) d_Wk_turn_14 t_o9 rfl) ?_
    refine pxb (fun _ => pm_icmp_ge (pc := 17) (tgt := 38) d_Wk_turn_17 (by decide)) (fun c_1 => ?_) (fun c_1 => absurd (by rw [ej]; exact (nI_leI (a := gT S o9 2) (b := gT S o9 2) (by omega) (by omega)).mpr (Nat.le_refl _)) c_1)
    refine px (fun _ => pm_iinc (x := nI i) (v := nI (i + 1)) (lv' := [(2, .int (nI (i + 1))), (3, .int (nI j)), (0, .ref (8 + 3 * a)), (1, .ref (8 + 3 * o9))]) (pc := 38) d_Wk_turn_38 rfl (nI_1 _) (by decide) rfl) ?_
    refine px (fun _ => pm_goto (tgt := 2) (pc := 41) d_Wk_turn_41 (by decide)) ?_
    refine pxd [0, 2, 3] rfl ?_
    exact K f h H F (by rw [ej] at iv; exact iv.row)
  | succ d ih =>
    intro i j f h H F iv hi hd9 K
    have bo := hW.2.2.2.2.1 o9 ho
    have t_a : h[8 + 3 * a]? = some (pm_Ob 2 [.ref (9 + 3 * a), .int (nI (gT S a 0)), .int (nI (gT S a 1)), .int (nI (gT S a 2))]) := (H.2.2.2.2.2.2.1 a ha).2.1
    have t_o9 : h[8 + 3 * o9]? = some (pm_Ob 2 [.ref (9 + 3 * o9), .int (nI (gT S o9 0)), .int (nI (gT S o9 1)), .int (nI (gT S o9 2))]) := (H.2.2.2.2.2.2.1 o9 ho).2.1
    have hj : j < gT S o9 2 := by omega
    have hi4 : i < 4 := by omega
    have hj4 : j < 4 := by omega
    refine px (fun _ => pm_iload_n (pc := 12) d_Wk_turn_12 rfl) ?_
    refine px (fun _ => pm_aload_n (pc := 13) d_Wk_turn_13 rfl) ?_
    refine px (fun _ => pm_getf fl_Wk_58 (pc := 14) d_Wk_turn_14 t_o9 rfl) ?_
    refine pxb (fun _ => pm_icmp_ge (pc := 17) (tgt := 38) d_Wk_turn_17 (by decide)) (fun c_1 => absurd c_1 (fun q => absurd ((nI_leI (a := gT S o9 2) (b := j) (by omega) (by omega)).mp q) (by omega))) (fun c_1 => ?_)
    refine px (fun _ => pm_aload_n (pc := 20) d_Wk_turn_20 rfl) ?_
    refine px (fun _ => pm_iload_n (pc := 21) d_Wk_turn_21 rfl) ?_
    refine px (fun _ => pm_iload_n (pc := 22) d_Wk_turn_22 rfl) ?_
    refine px (fun _ => pm_aload_n (pc := 23) d_Wk_turn_23 rfl) ?_
    refine px (fun _ => pm_iload_n (pc := 24) d_Wk_turn_24 rfl) ?_
    refine px (fun _ => pm_iload_n (pc := 25) d_Wk_turn_25 rfl) ?_
    refine px (fun _ => k_Wk_turn_26 (kc1 := 0) (ks1 := 0) (kc := 0) (ks := 0) (av := [.int (nI j), .int (nI i)]) (st := [.int (nI j), .int (nI i), .ref (8 + 3 * o9)]) t_a (c_atf (i := j) (j := i) hl H ha na (by omega) (by omega)) rfl rfl (Nat.le_of_ble_eq_true rfl)) ?_
    obtain ⟨⟨o2, h2⟩, ⟨e2, H2, F2⟩, en2⟩ := c_putf (l := l) (G := G) (fi := fi) (v := gC S a (j * 4 + i)) hl H hW ho (i := i) (j := j) (by omega) (by omega)
    dsimp only at e2 H2 F2
    subst e2
    refine px (fun _ => k_Wk_turn_29 (kc1 := 0) (ks1 := 0) (kc := 0) (ks := 0) (av := [.int (nI i), .int (nI j), .double (gC S a (j * 4 + i))]) (st := []) t_o9 (en2) rfl rfl (Nat.le_of_ble_eq_true rfl)) ?_
    refine px (fun _ => pm_iinc (x := nI j) (v := nI (j + 1)) (lv' := [(3, .int (nI (j + 1))), (2, .int (nI i)), (0, .ref (8 + 3 * a)), (1, .ref (8 + 3 * o9))]) (pc := 32) d_Wk_turn_32 rfl (nI_1 _) (by decide) rfl) ?_
    refine px (fun _ => pm_goto (tgt := 12) (pc := 35) d_Wk_turn_35 (by decide)) ?_
    refine pxd [0, 1, 2, 3] rfl ?_
    exact ih i (j + 1) _ _ H2 (F.tr F2) (iv.step (by omega) hj (rfl)) hi (by omega) K
set_option maxHeartbeats 4000000 in
set_option maxRecDepth 20000 in
theorem lpo_turn {l : Launch} {G : pm_G} {fi : Bool} {S : gS} {h0 : pm_H} {a o9 : Nat} (hl : l.stackTraces = false) (hW : gW S) (ho : o9 < 20) (ha : a < 20) (na : a ≠ o9) : ∀ (d i : Nat) (f : Nat → UInt64) (h : pm_H), gH (gsC S o9 f) h → gFr h0 h → g_inv (fun x y => gC S a (y * 4 + x)) (gT S o9 2) f (i) (0) → i + d = gT S o9 1 → pm_Px l G fi fi 0 0 M_Wk_turn 2 [(2, .int (nI i)), (0, .ref (8 + 3 * a)), (1, .ref (8 + 3 * o9))] [] h (g_Pw S o9 h0 (fun x y => gC S a (y * 4 + x)) (gT S o9 1) (gT S o9 2) (.inl (none))) := by
  intro d
  induction d with
  | zero =>
    intro i f h H F iv hd9
    have bo := hW.2.2.2.2.1 o9 ho
    have t_a : h[8 + 3 * a]? = some (pm_Ob 2 [.ref (9 + 3 * a), .int (nI (gT S a 0)), .int (nI (gT S a 1)), .int (nI (gT S a 2))]) := (H.2.2.2.2.2.2.1 a ha).2.1
    have t_o9 : h[8 + 3 * o9]? = some (pm_Ob 2 [.ref (9 + 3 * o9), .int (nI (gT S o9 0)), .int (nI (gT S o9 1)), .int (nI (gT S o9 2))]) := (H.2.2.2.2.2.2.1 o9 ho).2.1
    have ei : i = gT S o9 1 := by omega
    refine px (fun _ => pm_iload_n (pc := 2) d_Wk_turn_2 rfl) ?_
    refine px (fun _ => pm_aload_n (pc := 3) d_Wk_turn_3 rfl) ?_
    refine px (fun _ => pm_getf fl_Wk_53 (pc := 4) d_Wk_turn_4 t_o9 rfl) ?_
    refine pxb (fun _ => pm_icmp_ge (pc := 7) (tgt := 44) d_Wk_turn_7 (by decide)) (fun c_1 => ?_) (fun c_1 => absurd (by rw [ei]; exact (nI_leI (a := gT S o9 1) (b := gT S o9 1) (by omega) (by omega)).mpr (Nat.le_refl _)) c_1)
    exact pxr (pm_vret (pc := 44) d_Wk_turn_44 rfl) ⟨rfl, f, H, F, by rw [ei] at iv; exact iv⟩
  | succ d ih =>
    intro i f h H F iv hd9
    have bo := hW.2.2.2.2.1 o9 ho
    have t_a : h[8 + 3 * a]? = some (pm_Ob 2 [.ref (9 + 3 * a), .int (nI (gT S a 0)), .int (nI (gT S a 1)), .int (nI (gT S a 2))]) := (H.2.2.2.2.2.2.1 a ha).2.1
    have t_o9 : h[8 + 3 * o9]? = some (pm_Ob 2 [.ref (9 + 3 * o9), .int (nI (gT S o9 0)), .int (nI (gT S o9 1)), .int (nI (gT S o9 2))]) := (H.2.2.2.2.2.2.1 o9 ho).2.1
    refine px (fun _ => pm_iload_n (pc := 2) d_Wk_turn_2 rfl) ?_
    refine px (fun _ => pm_aload_n (pc := 3) d_Wk_turn_3 rfl) ?_
    refine px (fun _ => pm_getf fl_Wk_53 (pc := 4) d_Wk_turn_4 t_o9 rfl) ?_
    refine pxb (fun _ => pm_icmp_ge (pc := 7) (tgt := 44) d_Wk_turn_7 (by decide)) (fun c_1 => absurd c_1 (fun q => absurd ((nI_leI (a := gT S o9 1) (b := i) (by omega) (by omega)).mp q) (by omega))) (fun c_1 => ?_)
    refine px (fun _ => pm_iconst (v := 0) (pc := 10) d_Wk_turn_10 rfl) ?_
    refine px (fun _ => pm_istore_n (lv' := [(3, .int (0)), (2, .int (nI i)), (0, .ref (8 + 3 * a)), (1, .ref (8 + 3 * o9))]) (pc := 11) d_Wk_turn_11 (by decide) rfl) ?_
    refine pxd [0, 1, 2, 3] rfl ?_
    exact lpi_turn hl hW ho ha na (gT S o9 2) i 0 f h H F iv (by omega) (by omega) (fun f1 h1 a1 a2 a3 => ih (i + 1) f1 h1 a1 a2 a3 (by omega))
set_option maxHeartbeats 4000000 in
set_option maxRecDepth 20000 in
theorem w_turn {l : Launch} {G : pm_G} {fi : Bool} {h : pm_H} {S : gS} {a o9 : Nat} (hl : l.stackTraces = false) (H : gH S h) (hW : gW S) (ho : o9 < 20) (ha : a < 20) (na : a ≠ o9) : pm_Cn l G fi fi 0 0 M_Wk_turn [.ref (8 + 3 * a), .ref (8 + 3 * o9)] h (g_Pw S o9 h (fun x y => gC S a (y * 4 + x)) (gT S o9 1) (gT S o9 2) (.inl (none))) := by
  refine pm_Cn.of hl (by decide) (Nat.le_of_ble_eq_true rfl) ?_
  refine px (fun _ => pm_iconst (v := 0) (pc := 0) d_Wk_turn_0 rfl) ?_
  refine px (fun _ => pm_istore_n (lv' := [(2, .int (0)), (0, .ref (8 + 3 * a)), (1, .ref (8 + 3 * o9))]) (pc := 1) d_Wk_turn_1 (by decide) rfl) ?_
  exact lpo_turn hl hW ho ha na (gT S o9 1) 0 (gC S o9) h (by rw [gsC_self]; exact H) (gFr.rf h) g_inv.z (by omega)
set_option maxHeartbeats 4000000 in
set_option maxRecDepth 20000 in
theorem lpi_each {l : Launch} {G : pm_G} {fi : Bool} {S : gS} {h0 : pm_H} {a o9 n : Nat} (hl : l.stackTraces = false) (hW : gW S) (ho : o9 < 20) (ha : a < 20) (na : a ≠ o9) (K1 : ∀ (f : Nat → UInt64) (h : pm_H) {x : UInt64}, gH (gsC S o9 f) h → pm_En l G fi fi 0 0 M_Wk_ofOne [.ref (67 + 2 * n), .double (x)] h (.inl (some (.double (g_one S n x))), h)) : ∀ (d i j : Nat) (f : Nat → UInt64) (h : pm_H), gH (gsC S o9 f) h → gFr h0 h → g_inv (fun x y => g_one S n (gC S a (x * 4 + y))) (gT S o9 2) f (i) (j) → i < gT S o9 1 → j + d = gT S o9 2 → (∀ f1 h1, gH (gsC S o9 f1) h1 → gFr h0 h1 → g_inv (fun x y => g_one S n (gC S a (x * 4 + y))) (gT S o9 2) f1 (i + 1) (0) → pm_Px l G fi fi 0 0 M_Wk_workEach 2 [(3, .int (nI (i + 1))), (0, .ref (67 + 2 * n)), (1, .ref (8 + 3 * a)), (2, .ref (8 + 3 * o9))] [] h1 (g_Pw S o9 h0 (fun x y => g_one S n (gC S a (x * 4 + y))) (gT S o9 1) (gT S o9 2) (.inl (none)))) → pm_Px l G fi fi 0 0 M_Wk_workEach 13 [(4, .int (nI j)), (3, .int (nI i)), (0, .ref (67 + 2 * n)), (1, .ref (8 + 3 * a)), (2, .ref (8 + 3 * o9))] [] h (g_Pw S o9 h0 (fun x y => g_one S n (gC S a (x * 4 + y))) (gT S o9 1) (gT S o9 2) (.inl (none))) := by
  intro d
  induction d with
  | zero =>
    intro i j f h H F iv hi hd9 K
    have bo := hW.2.2.2.2.1 o9 ho
    have t_a : h[8 + 3 * a]? = some (pm_Ob 2 [.ref (9 + 3 * a), .int (nI (gT S a 0)), .int (nI (gT S a 1)), .int (nI (gT S a 2))]) := (H.2.2.2.2.2.2.1 a ha).2.1
    have t_o9 : h[8 + 3 * o9]? = some (pm_Ob 2 [.ref (9 + 3 * o9), .int (nI (gT S o9 0)), .int (nI (gT S o9 1)), .int (nI (gT S o9 2))]) := (H.2.2.2.2.2.2.1 o9 ho).2.1
    have ej : j = gT S o9 2 := by omega
    refine px (fun _ => pm_iload (pc := 13) d_Wk_workEach_13 rfl) ?_
    refine px (fun _ => pm_aload_n (pc := 15) d_Wk_workEach_15 rfl) ?_
    refine px (fun _ => pm_getf fl_Wk_58 (pc := 16) d_Wk_workEach_16 t_o9 rfl) ?_
    refine pxb (fun _ => pm_icmp_ge (pc := 19) (tgt := 46) d_Wk_workEach_19 (by decide)) (fun c_1 => ?_) (fun c_1 => absurd (by rw [ej]; exact (nI_leI (a := gT S o9 2) (b := gT S o9 2) (by omega) (by omega)).mpr (Nat.le_refl _)) c_1)
    refine px (fun _ => pm_iinc (x := nI i) (v := nI (i + 1)) (lv' := [(3, .int (nI (i + 1))), (4, .int (nI j)), (0, .ref (67 + 2 * n)), (1, .ref (8 + 3 * a)), (2, .ref (8 + 3 * o9))]) (pc := 46) d_Wk_workEach_46 rfl (nI_1 _) (by decide) rfl) ?_
    refine px (fun _ => pm_goto (tgt := 2) (pc := 49) d_Wk_workEach_49 (by decide)) ?_
    refine pxd [0, 2, 3, 4] rfl ?_
    exact K f h H F (by rw [ej] at iv; exact iv.row)
  | succ d ih =>
    intro i j f h H F iv hi hd9 K
    have bo := hW.2.2.2.2.1 o9 ho
    have t_a : h[8 + 3 * a]? = some (pm_Ob 2 [.ref (9 + 3 * a), .int (nI (gT S a 0)), .int (nI (gT S a 1)), .int (nI (gT S a 2))]) := (H.2.2.2.2.2.2.1 a ha).2.1
    have t_o9 : h[8 + 3 * o9]? = some (pm_Ob 2 [.ref (9 + 3 * o9), .int (nI (gT S o9 0)), .int (nI (gT S o9 1)), .int (nI (gT S o9 2))]) := (H.2.2.2.2.2.2.1 o9 ho).2.1
    have hj : j < gT S o9 2 := by omega
    have hi4 : i < 4 := by omega
    have hj4 : j < 4 := by omega
    refine px (fun _ => pm_iload (pc := 13) d_Wk_workEach_13 rfl) ?_
    refine px (fun _ => pm_aload_n (pc := 15) d_Wk_workEach_15 rfl) ?_
    refine px (fun _ => pm_getf fl_Wk_58 (pc := 16) d_Wk_workEach_16 t_o9 rfl) ?_
    refine pxb (fun _ => pm_icmp_ge (pc := 19) (tgt := 46) d_Wk_workEach_19 (by decide)) (fun c_1 => absurd c_1 (fun q => absurd ((nI_leI (a := gT S o9 2) (b := j) (by omega) (by omega)).mp q) (by omega))) (fun c_1 => ?_)
    refine px (fun _ => pm_aload_n (pc := 22) d_Wk_workEach_22 rfl) ?_
    refine px (fun _ => pm_iload_n (pc := 23) d_Wk_workEach_23 rfl) ?_
    refine px (fun _ => pm_iload (pc := 24) d_Wk_workEach_24 rfl) ?_
    refine px (fun _ => pm_aload_n (pc := 26) d_Wk_workEach_26 rfl) ?_
    refine px (fun _ => pm_aload_n (pc := 27) d_Wk_workEach_27 rfl) ?_
    refine px (fun _ => pm_iload_n (pc := 28) d_Wk_workEach_28 rfl) ?_
    refine px (fun _ => pm_iload (pc := 29) d_Wk_workEach_29 rfl) ?_
    refine px (fun _ => k_Wk_workEach_31 (kc1 := 0) (ks1 := 0) (kc := 0) (ks := 0) (av := [.int (nI i), .int (nI j)]) (st := [.ref (67 + 2 * n), .int (nI j), .int (nI i), .ref (8 + 3 * o9)]) t_a (c_atf (i := i) (j := j) hl H ha na (by omega) (by omega)) rfl rfl (Nat.le_of_ble_eq_true rfl)) ?_
    refine px (fun _ => k_Wk_workEach_34 (kc1 := 0) (ks1 := 0) (kc := 0) (ks := 0) (av := [.ref (67 + 2 * n), .double (gC S a (i * 4 + j))]) (st := [.int (nI j), .int (nI i), .ref (8 + 3 * o9)]) (K1 _ _ H) rfl rfl (Nat.le_of_ble_eq_true rfl)) ?_
    obtain ⟨⟨o2, h2⟩, ⟨e2, H2, F2⟩, en2⟩ := c_putf (l := l) (G := G) (fi := fi) (v := g_one S n (gC S a (i * 4 + j))) hl H hW ho (i := i) (j := j) (by omega) (by omega)
    dsimp only at e2 H2 F2
    subst e2
    refine px (fun _ => k_Wk_workEach_37 (kc1 := 0) (ks1 := 0) (kc := 0) (ks := 0) (av := [.int (nI i), .int (nI j), .double (g_one S n (gC S a (i * 4 + j)))]) (st := []) t_o9 (en2) rfl rfl (Nat.le_of_ble_eq_true rfl)) ?_
    refine px (fun _ => pm_iinc (x := nI j) (v := nI (j + 1)) (lv' := [(4, .int (nI (j + 1))), (3, .int (nI i)), (0, .ref (67 + 2 * n)), (1, .ref (8 + 3 * a)), (2, .ref (8 + 3 * o9))]) (pc := 40) d_Wk_workEach_40 rfl (nI_1 _) (by decide) rfl) ?_
    refine px (fun _ => pm_goto (tgt := 13) (pc := 43) d_Wk_workEach_43 (by decide)) ?_
    refine pxd [0, 1, 2, 3, 4] rfl ?_
    exact ih i (j + 1) _ _ H2 (F.tr F2) (iv.step (by omega) hj (rfl)) hi (by omega) K
set_option maxHeartbeats 4000000 in
set_option maxRecDepth 20000 in
theorem lpo_each {l : Launch} {G : pm_G} {fi : Bool} {S : gS} {h0 : pm_H} {a o9 n : Nat} (hl : l.stackTraces = false) (hW : gW S) (ho : o9 < 20) (ha : a < 20) (na : a ≠ o9) (K1 : ∀ (f : Nat → UInt64) (h : pm_H) {x : UInt64}, gH (gsC S o9 f) h → pm_En l G fi fi 0 0 M_Wk_ofOne [.ref (67 + 2 * n), .double (x)] h (.inl (some (.double (g_one S n x))), h)) : ∀ (d i : Nat) (f : Nat → UInt64) (h : pm_H), gH (gsC S o9 f) h → gFr h0 h → g_inv (fun x y => g_one S n (gC S a (x * 4 + y))) (gT S o9 2) f (i) (0) → i + d = gT S o9 1 → pm_Px l G fi fi 0 0 M_Wk_workEach 2 [(3, .int (nI i)), (0, .ref (67 + 2 * n)), (1, .ref (8 + 3 * a)), (2, .ref (8 + 3 * o9))] [] h (g_Pw S o9 h0 (fun x y => g_one S n (gC S a (x * 4 + y))) (gT S o9 1) (gT S o9 2) (.inl (none))) := by
  intro d
  induction d with
  | zero =>
    intro i f h H F iv hd9
    have bo := hW.2.2.2.2.1 o9 ho
    have t_a : h[8 + 3 * a]? = some (pm_Ob 2 [.ref (9 + 3 * a), .int (nI (gT S a 0)), .int (nI (gT S a 1)), .int (nI (gT S a 2))]) := (H.2.2.2.2.2.2.1 a ha).2.1
    have t_o9 : h[8 + 3 * o9]? = some (pm_Ob 2 [.ref (9 + 3 * o9), .int (nI (gT S o9 0)), .int (nI (gT S o9 1)), .int (nI (gT S o9 2))]) := (H.2.2.2.2.2.2.1 o9 ho).2.1
    have ei : i = gT S o9 1 := by omega
    refine px (fun _ => pm_iload_n (pc := 2) d_Wk_workEach_2 rfl) ?_
    refine px (fun _ => pm_aload_n (pc := 3) d_Wk_workEach_3 rfl) ?_
    refine px (fun _ => pm_getf fl_Wk_53 (pc := 4) d_Wk_workEach_4 t_o9 rfl) ?_
    refine pxb (fun _ => pm_icmp_ge (pc := 7) (tgt := 52) d_Wk_workEach_7 (by decide)) (fun c_1 => ?_) (fun c_1 => absurd (by rw [ei]; exact (nI_leI (a := gT S o9 1) (b := gT S o9 1) (by omega) (by omega)).mpr (Nat.le_refl _)) c_1)
    exact pxr (pm_vret (pc := 52) d_Wk_workEach_52 rfl) ⟨rfl, f, H, F, by rw [ei] at iv; exact iv⟩
  | succ d ih =>
    intro i f h H F iv hd9
    have bo := hW.2.2.2.2.1 o9 ho
    have t_a : h[8 + 3 * a]? = some (pm_Ob 2 [.ref (9 + 3 * a), .int (nI (gT S a 0)), .int (nI (gT S a 1)), .int (nI (gT S a 2))]) := (H.2.2.2.2.2.2.1 a ha).2.1
    have t_o9 : h[8 + 3 * o9]? = some (pm_Ob 2 [.ref (9 + 3 * o9), .int (nI (gT S o9 0)), .int (nI (gT S o9 1)), .int (nI (gT S o9 2))]) := (H.2.2.2.2.2.2.1 o9 ho).2.1
    refine px (fun _ => pm_iload_n (pc := 2) d_Wk_workEach_2 rfl) ?_
    refine px (fun _ => pm_aload_n (pc := 3) d_Wk_workEach_3 rfl) ?_
    refine px (fun _ => pm_getf fl_Wk_53 (pc := 4) d_Wk_workEach_4 t_o9 rfl) ?_
    refine pxb (fun _ => pm_icmp_ge (pc := 7) (tgt := 52) d_Wk_workEach_7 (by decide)) (fun c_1 => absurd c_1 (fun q => absurd ((nI_leI (a := gT S o9 1) (b := i) (by omega) (by omega)).mp q) (by omega))) (fun c_1 => ?_)
    refine px (fun _ => pm_iconst (v := 0) (pc := 10) d_Wk_workEach_10 rfl) ?_
    refine px (fun _ => pm_istore (lv' := [(4, .int (0)), (3, .int (nI i)), (0, .ref (67 + 2 * n)), (1, .ref (8 + 3 * a)), (2, .ref (8 + 3 * o9))]) (pc := 11) d_Wk_workEach_11 (by decide) rfl) ?_
    refine pxd [0, 1, 2, 3, 4] rfl ?_
    exact lpi_each hl hW ho ha na K1 (gT S o9 2) i 0 f h H F iv (by omega) (by omega) (fun f1 h1 a1 a2 a3 => ih (i + 1) f1 h1 a1 a2 a3 (by omega))
set_option maxHeartbeats 4000000 in
set_option maxRecDepth 20000 in
theorem w_each {l : Launch} {G : pm_G} {fi : Bool} {h : pm_H} {S : gS} {a o9 n : Nat} (hl : l.stackTraces = false) (H : gH S h) (hW : gW S) (ho : o9 < 20) (ha : a < 20) (na : a ≠ o9) (K1 : ∀ (f : Nat → UInt64) (h : pm_H) {x : UInt64}, gH (gsC S o9 f) h → pm_En l G fi fi 0 0 M_Wk_ofOne [.ref (67 + 2 * n), .double (x)] h (.inl (some (.double (g_one S n x))), h)) : pm_Cn l G fi fi 0 0 M_Wk_workEach [.ref (67 + 2 * n), .ref (8 + 3 * a), .ref (8 + 3 * o9)] h (g_Pw S o9 h (fun x y => g_one S n (gC S a (x * 4 + y))) (gT S o9 1) (gT S o9 2) (.inl (none))) := by
  refine pm_Cn.of hl (by decide) (Nat.le_of_ble_eq_true rfl) ?_
  refine px (fun _ => pm_iconst (v := 0) (pc := 0) d_Wk_workEach_0 rfl) ?_
  refine px (fun _ => pm_istore_n (lv' := [(3, .int (0)), (0, .ref (67 + 2 * n)), (1, .ref (8 + 3 * a)), (2, .ref (8 + 3 * o9))]) (pc := 1) d_Wk_workEach_1 (by decide) rfl) ?_
  exact lpo_each hl hW ho ha na K1 (gT S o9 1) 0 (gC S o9) h (by rw [gsC_self]; exact H) (gFr.rf h) g_inv.z (by omega)
set_option maxHeartbeats 4000000 in
set_option maxRecDepth 20000 in
theorem lpi_chs {l : Launch} {G : pm_G} {fi : Bool} {S : gS} {h0 : pm_H} {a b c o9 : Nat} (hl : l.stackTraces = false) (hW : gW S) (ho : o9 < 20) (ha : a < 20) (na : a ≠ o9) (hb : b < 20) (nb : b ≠ o9) (hc : c < 20) (nc : c ≠ o9) : ∀ (d i j : Nat) (f : Nat → UInt64) (h : pm_H), gH (gsC S o9 f) h → gFr h0 h → g_inv (fun x y => if ¬ fEq (g_ag S c x y) FP.dconst0 then g_ag S a x y else g_ag S b x y) (gT S o9 2) f (i) (j) → i < gT S o9 1 → j + d = gT S o9 2 → (∀ f1 h1, gH (gsC S o9 f1) h1 → gFr h0 h1 → g_inv (fun x y => if ¬ fEq (g_ag S c x y) FP.dconst0 then g_ag S a x y else g_ag S b x y) (gT S o9 2) f1 (i + 1) (0) → pm_Px l G fi fi 0 0 M_Wk_chooseEach 3 [(4, .int (nI (i + 1))), (0, .ref (8 + 3 * a)), (1, .ref (8 + 3 * b)), (2, .ref (8 + 3 * c)), (3, .ref (8 + 3 * o9))] [] h1 (g_Pw S o9 h0 (fun x y => if ¬ fEq (g_ag S c x y) FP.dconst0 then g_ag S a x y else g_ag S b x y) (gT S o9 1) (gT S o9 2) (.inl (none)))) → pm_Px l G fi fi 0 0 M_Wk_chooseEach 15 [(5, .int (nI j)), (4, .int (nI i)), (0, .ref (8 + 3 * a)), (1, .ref (8 + 3 * b)), (2, .ref (8 + 3 * c)), (3, .ref (8 + 3 * o9))] [] h (g_Pw S o9 h0 (fun x y => if ¬ fEq (g_ag S c x y) FP.dconst0 then g_ag S a x y else g_ag S b x y) (gT S o9 1) (gT S o9 2) (.inl (none))) := by
  intro d
  induction d with
  | zero =>
    intro i j f h H F iv hi hd9 K
    have bo := hW.2.2.2.2.1 o9 ho
    have t_a : h[8 + 3 * a]? = some (pm_Ob 2 [.ref (9 + 3 * a), .int (nI (gT S a 0)), .int (nI (gT S a 1)), .int (nI (gT S a 2))]) := (H.2.2.2.2.2.2.1 a ha).2.1
    have t_b : h[8 + 3 * b]? = some (pm_Ob 2 [.ref (9 + 3 * b), .int (nI (gT S b 0)), .int (nI (gT S b 1)), .int (nI (gT S b 2))]) := (H.2.2.2.2.2.2.1 b hb).2.1
    have t_c : h[8 + 3 * c]? = some (pm_Ob 2 [.ref (9 + 3 * c), .int (nI (gT S c 0)), .int (nI (gT S c 1)), .int (nI (gT S c 2))]) := (H.2.2.2.2.2.2.1 c hc).2.1
    have t_o9 : h[8 + 3 * o9]? = some (pm_Ob 2 [.ref (9 + 3 * o9), .int (nI (gT S o9 0)), .int (nI (gT S o9 1)), .int (nI (gT S o9 2))]) := (H.2.2.2.2.2.2.1 o9 ho).2.1
    have ej : j = gT S o9 2 := by omega
    refine px (fun _ => pm_iload (pc := 15) d_Wk_chooseEach_15 rfl) ?_
    refine px (fun _ => pm_aload_n (pc := 17) d_Wk_chooseEach_17 rfl) ?_
    refine px (fun _ => pm_getf fl_Wk_58 (pc := 18) d_Wk_chooseEach_18 t_o9 rfl) ?_
    refine pxb (fun _ => pm_icmp_ge (pc := 21) (tgt := 70) d_Wk_chooseEach_21 (by decide)) (fun c_1 => ?_) (fun c_1 => absurd (by rw [ej]; exact (nI_leI (a := gT S o9 2) (b := gT S o9 2) (by omega) (by omega)).mpr (Nat.le_refl _)) c_1)
    refine px (fun _ => pm_iinc (x := nI i) (v := nI (i + 1)) (lv' := [(4, .int (nI (i + 1))), (5, .int (nI j)), (0, .ref (8 + 3 * a)), (1, .ref (8 + 3 * b)), (2, .ref (8 + 3 * c)), (3, .ref (8 + 3 * o9))]) (pc := 70) d_Wk_chooseEach_70 rfl (nI_1 _) (by decide) rfl) ?_
    refine px (fun _ => pm_goto (tgt := 3) (pc := 73) d_Wk_chooseEach_73 (by decide)) ?_
    refine pxd [0, 2, 3, 4, 5] rfl ?_
    exact K f h H F (by rw [ej] at iv; exact iv.row)
  | succ d ih =>
    intro i j f h H F iv hi hd9 K
    have bo := hW.2.2.2.2.1 o9 ho
    have t_a : h[8 + 3 * a]? = some (pm_Ob 2 [.ref (9 + 3 * a), .int (nI (gT S a 0)), .int (nI (gT S a 1)), .int (nI (gT S a 2))]) := (H.2.2.2.2.2.2.1 a ha).2.1
    have t_b : h[8 + 3 * b]? = some (pm_Ob 2 [.ref (9 + 3 * b), .int (nI (gT S b 0)), .int (nI (gT S b 1)), .int (nI (gT S b 2))]) := (H.2.2.2.2.2.2.1 b hb).2.1
    have t_c : h[8 + 3 * c]? = some (pm_Ob 2 [.ref (9 + 3 * c), .int (nI (gT S c 0)), .int (nI (gT S c 1)), .int (nI (gT S c 2))]) := (H.2.2.2.2.2.2.1 c hc).2.1
    have t_o9 : h[8 + 3 * o9]? = some (pm_Ob 2 [.ref (9 + 3 * o9), .int (nI (gT S o9 0)), .int (nI (gT S o9 1)), .int (nI (gT S o9 2))]) := (H.2.2.2.2.2.2.1 o9 ho).2.1
    have hj : j < gT S o9 2 := by omega
    have hi4 : i < 4 := by omega
    have hj4 : j < 4 := by omega
    refine px (fun _ => pm_iload (pc := 15) d_Wk_chooseEach_15 rfl) ?_
    refine px (fun _ => pm_aload_n (pc := 17) d_Wk_chooseEach_17 rfl) ?_
    refine px (fun _ => pm_getf fl_Wk_58 (pc := 18) d_Wk_chooseEach_18 t_o9 rfl) ?_
    refine pxb (fun _ => pm_icmp_ge (pc := 21) (tgt := 70) d_Wk_chooseEach_21 (by decide)) (fun c_1 => absurd c_1 (fun q => absurd ((nI_leI (a := gT S o9 2) (b := j) (by omega) (by omega)).mp q) (by omega))) (fun c_1 => ?_)
    refine px (fun _ => pm_aload_n (pc := 24) d_Wk_chooseEach_24 rfl) ?_
    refine px (fun _ => pm_iload (pc := 25) d_Wk_chooseEach_25 rfl) ?_
    refine px (fun _ => pm_iload (pc := 27) d_Wk_chooseEach_27 rfl) ?_
    refine px (fun _ => pm_aload_n (pc := 29) d_Wk_chooseEach_29 rfl) ?_
    refine px (fun _ => pm_iload (pc := 30) d_Wk_chooseEach_30 rfl) ?_
    refine px (fun _ => pm_iload (pc := 32) d_Wk_chooseEach_32 rfl) ?_
    refine px (fun _ => k_Wk_chooseEach_34 (kc1 := 0) (ks1 := 0) (kc := 0) (ks := 0) (av := [.int (nI i), .int (nI j)]) (st := [.int (nI j), .int (nI i), .ref (8 + 3 * o9)]) t_c (c_ag (i := i) (j := j) hl H hW hc nc (by omega) (by omega)) rfl rfl (Nat.le_of_ble_eq_true rfl)) ?_
    refine px (fun _ => pm_dconst0 (pc := 37) d_Wk_chooseEach_37) ?_
    refine px (fun _ => pm_dcmp (pc := 38) d_Wk_chooseEach_38) ?_
    refine pxb (fun _ => pm_if_eq (pc := 39) (tgt := 53) d_Wk_chooseEach_39 (by decide)) (fun c_2 => ?_) (fun c_2 => ?_)
    · refine px (fun _ => pm_aload_n (pc := 53) d_Wk_chooseEach_53 rfl) ?_
      refine px (fun _ => pm_iload (pc := 54) d_Wk_chooseEach_54 rfl) ?_
      refine px (fun _ => pm_iload (pc := 56) d_Wk_chooseEach_56 rfl) ?_
      refine px (fun _ => k_Wk_chooseEach_58 (kc1 := 0) (ks1 := 0) (kc := 0) (ks := 0) (av := [.int (nI i), .int (nI j)]) (st := [.int (nI j), .int (nI i), .ref (8 + 3 * o9)]) t_b (c_ag (i := i) (j := j) hl H hW hb nb (by omega) (by omega)) rfl rfl (Nat.le_of_ble_eq_true rfl)) ?_
      obtain ⟨⟨o3, h3⟩, ⟨e3, H3, F3⟩, en3⟩ := c_putf (l := l) (G := G) (fi := fi) (v := g_ag S b i j) hl H hW ho (i := i) (j := j) (by omega) (by omega)
      dsimp only at e3 H3 F3
      subst e3
      refine px (fun _ => k_Wk_chooseEach_61 (kc1 := 0) (ks1 := 0) (kc := 0) (ks := 0) (av := [.int (nI i), .int (nI j), .double (g_ag S b i j)]) (st := []) t_o9 (en3) rfl rfl (Nat.le_of_ble_eq_true rfl)) ?_
      refine px (fun _ => pm_iinc (x := nI j) (v := nI (j + 1)) (lv' := [(5, .int (nI (j + 1))), (4, .int (nI i)), (0, .ref (8 + 3 * a)), (1, .ref (8 + 3 * b)), (2, .ref (8 + 3 * c)), (3, .ref (8 + 3 * o9))]) (pc := 64) d_Wk_chooseEach_64 rfl (nI_1 _) (by decide) rfl) ?_
      refine px (fun _ => pm_goto (tgt := 15) (pc := 67) d_Wk_chooseEach_67 (by decide)) ?_
      refine pxd [0, 1, 2, 3, 4, 5] rfl ?_
      exact ih i (j + 1) _ _ H3 (F.tr F3) (iv.step (by omega) hj (by show _ = if ¬ fEq (g_ag S c i j) FP.dconst0 then g_ag S a i j else g_ag S b i j; rw [if_neg (fun q => q (by assumption))])) hi (by omega) K
    · refine px (fun _ => pm_aload_n (pc := 42) d_Wk_chooseEach_42 rfl) ?_
      refine px (fun _ => pm_iload (pc := 43) d_Wk_chooseEach_43 rfl) ?_
      refine px (fun _ => pm_iload (pc := 45) d_Wk_chooseEach_45 rfl) ?_
      refine px (fun _ => k_Wk_chooseEach_47 (kc1 := 0) (ks1 := 0) (kc := 0) (ks := 0) (av := [.int (nI i), .int (nI j)]) (st := [.int (nI j), .int (nI i), .ref (8 + 3 * o9)]) t_a (c_ag (i := i) (j := j) hl H hW ha na (by omega) (by omega)) rfl rfl (Nat.le_of_ble_eq_true rfl)) ?_
      refine px (fun _ => pm_goto (tgt := 61) (pc := 50) d_Wk_chooseEach_50 (by decide)) ?_
      obtain ⟨⟨o4, h4⟩, ⟨e4, H4, F4⟩, en4⟩ := c_putf (l := l) (G := G) (fi := fi) (v := g_ag S a i j) hl H hW ho (i := i) (j := j) (by omega) (by omega)
      dsimp only at e4 H4 F4
      subst e4
      refine px (fun _ => k_Wk_chooseEach_61 (kc1 := 0) (ks1 := 0) (kc := 0) (ks := 0) (av := [.int (nI i), .int (nI j), .double (g_ag S a i j)]) (st := []) t_o9 (en4) rfl rfl (Nat.le_of_ble_eq_true rfl)) ?_
      refine px (fun _ => pm_iinc (x := nI j) (v := nI (j + 1)) (lv' := [(5, .int (nI (j + 1))), (4, .int (nI i)), (0, .ref (8 + 3 * a)), (1, .ref (8 + 3 * b)), (2, .ref (8 + 3 * c)), (3, .ref (8 + 3 * o9))]) (pc := 64) d_Wk_chooseEach_64 rfl (nI_1 _) (by decide) rfl) ?_
      refine px (fun _ => pm_goto (tgt := 15) (pc := 67) d_Wk_chooseEach_67 (by decide)) ?_
      refine pxd [0, 1, 2, 3, 4, 5] rfl ?_
      exact ih i (j + 1) _ _ H4 (F.tr F4) (iv.step (by omega) hj (by show _ = if ¬ fEq (g_ag S c i j) FP.dconst0 then g_ag S a i j else g_ag S b i j; rw [if_pos (by assumption)])) hi (by omega) K
set_option maxHeartbeats 4000000 in
set_option maxRecDepth 20000 in
theorem lpo_chs {l : Launch} {G : pm_G} {fi : Bool} {S : gS} {h0 : pm_H} {a b c o9 : Nat} (hl : l.stackTraces = false) (hW : gW S) (ho : o9 < 20) (ha : a < 20) (na : a ≠ o9) (hb : b < 20) (nb : b ≠ o9) (hc : c < 20) (nc : c ≠ o9) : ∀ (d i : Nat) (f : Nat → UInt64) (h : pm_H), gH (gsC S o9 f) h → gFr h0 h → g_inv (fun x y => if ¬ fEq (g_ag S c x y) FP.dconst0 then g_ag S a x y else g_ag S b x y) (gT S o9 2) f (i) (0) → i + d = gT S o9 1 → pm_Px l G fi fi 0 0 M_Wk_chooseEach 3 [(4, .int (nI i)), (0, .ref (8 + 3 * a)), (1, .ref (8 + 3 * b)), (2, .ref (8 + 3 * c)), (3, .ref (8 + 3 * o9))] [] h (g_Pw S o9 h0 (fun x y => if ¬ fEq (g_ag S c x y) FP.dconst0 then g_ag S a x y else g_ag S b x y) (gT S o9 1) (gT S o9 2) (.inl (none))) := by
  intro d
  induction d with
  | zero =>
    intro i f h H F iv hd9
    have bo := hW.2.2.2.2.1 o9 ho
    have t_a : h[8 + 3 * a]? = some (pm_Ob 2 [.ref (9 + 3 * a), .int (nI (gT S a 0)), .int (nI (gT S a 1)), .int (nI (gT S a 2))]) := (H.2.2.2.2.2.2.1 a ha).2.1
    have t_b : h[8 + 3 * b]? = some (pm_Ob 2 [.ref (9 + 3 * b), .int (nI (gT S b 0)), .int (nI (gT S b 1)), .int (nI (gT S b 2))]) := (H.2.2.2.2.2.2.1 b hb).2.1
    have t_c : h[8 + 3 * c]? = some (pm_Ob 2 [.ref (9 + 3 * c), .int (nI (gT S c 0)), .int (nI (gT S c 1)), .int (nI (gT S c 2))]) := (H.2.2.2.2.2.2.1 c hc).2.1
    have t_o9 : h[8 + 3 * o9]? = some (pm_Ob 2 [.ref (9 + 3 * o9), .int (nI (gT S o9 0)), .int (nI (gT S o9 1)), .int (nI (gT S o9 2))]) := (H.2.2.2.2.2.2.1 o9 ho).2.1
    have ei : i = gT S o9 1 := by omega
    refine px (fun _ => pm_iload (pc := 3) d_Wk_chooseEach_3 rfl) ?_
    refine px (fun _ => pm_aload_n (pc := 5) d_Wk_chooseEach_5 rfl) ?_
    refine px (fun _ => pm_getf fl_Wk_53 (pc := 6) d_Wk_chooseEach_6 t_o9 rfl) ?_
    refine pxb (fun _ => pm_icmp_ge (pc := 9) (tgt := 76) d_Wk_chooseEach_9 (by decide)) (fun c_1 => ?_) (fun c_1 => absurd (by rw [ei]; exact (nI_leI (a := gT S o9 1) (b := gT S o9 1) (by omega) (by omega)).mpr (Nat.le_refl _)) c_1)
    exact pxr (pm_vret (pc := 76) d_Wk_chooseEach_76 rfl) ⟨rfl, f, H, F, by rw [ei] at iv; exact iv⟩
  | succ d ih =>
    intro i f h H F iv hd9
    have bo := hW.2.2.2.2.1 o9 ho
    have t_a : h[8 + 3 * a]? = some (pm_Ob 2 [.ref (9 + 3 * a), .int (nI (gT S a 0)), .int (nI (gT S a 1)), .int (nI (gT S a 2))]) := (H.2.2.2.2.2.2.1 a ha).2.1
    have t_b : h[8 + 3 * b]? = some (pm_Ob 2 [.ref (9 + 3 * b), .int (nI (gT S b 0)), .int (nI (gT S b 1)), .int (nI (gT S b 2))]) := (H.2.2.2.2.2.2.1 b hb).2.1
    have t_c : h[8 + 3 * c]? = some (pm_Ob 2 [.ref (9 + 3 * c), .int (nI (gT S c 0)), .int (nI (gT S c 1)), .int (nI (gT S c 2))]) := (H.2.2.2.2.2.2.1 c hc).2.1
    have t_o9 : h[8 + 3 * o9]? = some (pm_Ob 2 [.ref (9 + 3 * o9), .int (nI (gT S o9 0)), .int (nI (gT S o9 1)), .int (nI (gT S o9 2))]) := (H.2.2.2.2.2.2.1 o9 ho).2.1
    refine px (fun _ => pm_iload (pc := 3) d_Wk_chooseEach_3 rfl) ?_
    refine px (fun _ => pm_aload_n (pc := 5) d_Wk_chooseEach_5 rfl) ?_
    refine px (fun _ => pm_getf fl_Wk_53 (pc := 6) d_Wk_chooseEach_6 t_o9 rfl) ?_
    refine pxb (fun _ => pm_icmp_ge (pc := 9) (tgt := 76) d_Wk_chooseEach_9 (by decide)) (fun c_1 => absurd c_1 (fun q => absurd ((nI_leI (a := gT S o9 1) (b := i) (by omega) (by omega)).mp q) (by omega))) (fun c_1 => ?_)
    refine px (fun _ => pm_iconst (v := 0) (pc := 12) d_Wk_chooseEach_12 rfl) ?_
    refine px (fun _ => pm_istore (lv' := [(5, .int (0)), (4, .int (nI i)), (0, .ref (8 + 3 * a)), (1, .ref (8 + 3 * b)), (2, .ref (8 + 3 * c)), (3, .ref (8 + 3 * o9))]) (pc := 13) d_Wk_chooseEach_13 (by decide) rfl) ?_
    refine pxd [0, 1, 2, 3, 4, 5] rfl ?_
    exact lpi_chs hl hW ho ha na hb nb hc nc (gT S o9 2) i 0 f h H F iv (by omega) (by omega) (fun f1 h1 a1 a2 a3 => ih (i + 1) f1 h1 a1 a2 a3 (by omega))
set_option maxHeartbeats 4000000 in
set_option maxRecDepth 20000 in
theorem w_chs {l : Launch} {G : pm_G} {fi : Bool} {h : pm_H} {S : gS} {a b c o9 : Nat} (hl : l.stackTraces = false) (H : gH S h) (hW : gW S) (ho : o9 < 20) (ha : a < 20) (na : a ≠ o9) (hb : b < 20) (nb : b ≠ o9) (hc : c < 20) (nc : c ≠ o9) : pm_Cn l G fi fi 0 0 M_Wk_chooseEach [.ref (8 + 3 * a), .ref (8 + 3 * b), .ref (8 + 3 * c), .ref (8 + 3 * o9)] h (g_Pw S o9 h (fun x y => if ¬ fEq (g_ag S c x y) FP.dconst0 then g_ag S a x y else g_ag S b x y) (gT S o9 1) (gT S o9 2) (.inl (none))) := by
  refine pm_Cn.of hl (by decide) (Nat.le_of_ble_eq_true rfl) ?_
  refine px (fun _ => pm_iconst (v := 0) (pc := 0) d_Wk_chooseEach_0 rfl) ?_
  refine px (fun _ => pm_istore (lv' := [(4, .int (0)), (0, .ref (8 + 3 * a)), (1, .ref (8 + 3 * b)), (2, .ref (8 + 3 * c)), (3, .ref (8 + 3 * o9))]) (pc := 1) d_Wk_chooseEach_1 (by decide) rfl) ?_
  exact lpo_chs hl hW ho ha na hb nb hc nc (gT S o9 1) 0 (gC S o9) h (by rw [gsC_self]; exact H) (gFr.rf h) g_inv.z (by omega)
set_option maxHeartbeats 4000000 in
set_option maxRecDepth 20000 in
theorem lpi_pair0 {l : Launch} {G : pm_G} {fi : Bool} {S : gS} {h0 : pm_H} {a b o9 : Nat} (hl : l.stackTraces = false) (hW : gW S) (ho : o9 < 20) (ha : a < 20) (na : a ≠ o9) (hb : b < 20) (nb : b ≠ o9) (hne : ∀ x y, x < gT S o9 1 → y < gT S o9 2 → ¬ gT S a 0 = 1 → vf_n64 (FP.dadd (g_ag S a x y) (g_ag S b x y))) : ∀ (d i j : Nat) (f : Nat → UInt64) (h : pm_H), gH (gsC S o9 f) h → gFr h0 h → g_inv (fun x y => if gT S a 0 = 1 then FP.i2d (g_pi 0 (FP.d2i (g_ag S a x y)) (FP.d2i (g_ag S b x y))) else g_pf 0 (g_ag S a x y) (g_ag S b x y)) (gT S o9 2) f (i) (j) → i < gT S o9 1 → j + d = gT S o9 2 → (∀ f1 h1, gH (gsC S o9 f1) h1 → gFr h0 h1 → g_inv (fun x y => if gT S a 0 = 1 then FP.i2d (g_pi 0 (FP.d2i (g_ag S a x y)) (FP.d2i (g_ag S b x y))) else g_pf 0 (g_ag S a x y) (g_ag S b x y)) (gT S o9 2) f1 (i + 1) (0) → pm_Px l G fi fi 0 0 M_Wk_pair 3 [(4, .int (nI (i + 1))), (0, .int (0)), (1, .ref (8 + 3 * a)), (2, .ref (8 + 3 * b)), (3, .ref (8 + 3 * o9))] [] h1 (g_Pw S o9 h0 (fun x y => if gT S a 0 = 1 then FP.i2d (g_pi 0 (FP.d2i (g_ag S a x y)) (FP.d2i (g_ag S b x y))) else g_pf 0 (g_ag S a x y) (g_ag S b x y)) (gT S o9 1) (gT S o9 2) (.inl (none)))) → pm_Px l G fi fi 0 0 M_Wk_pair 15 [(5, .int (nI j)), (4, .int (nI i)), (0, .int (0)), (1, .ref (8 + 3 * a)), (2, .ref (8 + 3 * b)), (3, .ref (8 + 3 * o9))] [] h (g_Pw S o9 h0 (fun x y => if gT S a 0 = 1 then FP.i2d (g_pi 0 (FP.d2i (g_ag S a x y)) (FP.d2i (g_ag S b x y))) else g_pf 0 (g_ag S a x y) (g_ag S b x y)) (gT S o9 1) (gT S o9 2) (.inl (none))) := by
  intro d
  induction d with
  | zero =>
    intro i j f h H F iv hi hd9 K
    have bo := hW.2.2.2.2.1 o9 ho
    have ba := hW.2.2.2.2.1 a ha
    have t_a : h[8 + 3 * a]? = some (pm_Ob 2 [.ref (9 + 3 * a), .int (nI (gT S a 0)), .int (nI (gT S a 1)), .int (nI (gT S a 2))]) := (H.2.2.2.2.2.2.1 a ha).2.1
    have t_b : h[8 + 3 * b]? = some (pm_Ob 2 [.ref (9 + 3 * b), .int (nI (gT S b 0)), .int (nI (gT S b 1)), .int (nI (gT S b 2))]) := (H.2.2.2.2.2.2.1 b hb).2.1
    have t_o9 : h[8 + 3 * o9]? = some (pm_Ob 2 [.ref (9 + 3 * o9), .int (nI (gT S o9 0)), .int (nI (gT S o9 1)), .int (nI (gT S o9 2))]) := (H.2.2.2.2.2.2.1 o9 ho).2.1
    have ej : j = gT S o9 2 := by omega
    refine px (fun _ => pm_iload (pc := 15) d_Wk_pair_15 rfl) ?_
    refine px (fun _ => pm_aload_n (pc := 17) d_Wk_pair_17 rfl) ?_
    refine px (fun _ => pm_getf fl_Wk_58 (pc := 18) d_Wk_pair_18 t_o9 rfl) ?_
    refine pxb (fun _ => pm_icmp_ge (pc := 21) (tgt := 88) d_Wk_pair_21 (by decide)) (fun c_1 => ?_) (fun c_1 => absurd (by rw [ej]; exact (nI_leI (a := gT S o9 2) (b := gT S o9 2) (by omega) (by omega)).mpr (Nat.le_refl _)) c_1)
    refine px (fun _ => pm_iinc (x := nI i) (v := nI (i + 1)) (lv' := [(4, .int (nI (i + 1))), (5, .int (nI j)), (0, .int (0)), (1, .ref (8 + 3 * a)), (2, .ref (8 + 3 * b)), (3, .ref (8 + 3 * o9))]) (pc := 88) d_Wk_pair_88 rfl (nI_1 _) (by decide) rfl) ?_
    refine px (fun _ => pm_goto (tgt := 3) (pc := 91) d_Wk_pair_91 (by decide)) ?_
    refine pxd [0, 2, 3, 4, 5] rfl ?_
    exact K f h H F (by rw [ej] at iv; exact iv.row)
  | succ d ih =>
    intro i j f h H F iv hi hd9 K
    have bo := hW.2.2.2.2.1 o9 ho
    have ba := hW.2.2.2.2.1 a ha
    have t_a : h[8 + 3 * a]? = some (pm_Ob 2 [.ref (9 + 3 * a), .int (nI (gT S a 0)), .int (nI (gT S a 1)), .int (nI (gT S a 2))]) := (H.2.2.2.2.2.2.1 a ha).2.1
    have t_b : h[8 + 3 * b]? = some (pm_Ob 2 [.ref (9 + 3 * b), .int (nI (gT S b 0)), .int (nI (gT S b 1)), .int (nI (gT S b 2))]) := (H.2.2.2.2.2.2.1 b hb).2.1
    have t_o9 : h[8 + 3 * o9]? = some (pm_Ob 2 [.ref (9 + 3 * o9), .int (nI (gT S o9 0)), .int (nI (gT S o9 1)), .int (nI (gT S o9 2))]) := (H.2.2.2.2.2.2.1 o9 ho).2.1
    have hj : j < gT S o9 2 := by omega
    have hi4 : i < 4 := by omega
    have hj4 : j < 4 := by omega
    refine px (fun _ => pm_iload (pc := 15) d_Wk_pair_15 rfl) ?_
    refine px (fun _ => pm_aload_n (pc := 17) d_Wk_pair_17 rfl) ?_
    refine px (fun _ => pm_getf fl_Wk_58 (pc := 18) d_Wk_pair_18 t_o9 rfl) ?_
    refine pxb (fun _ => pm_icmp_ge (pc := 21) (tgt := 88) d_Wk_pair_21 (by decide)) (fun c_1 => absurd c_1 (fun q => absurd ((nI_leI (a := gT S o9 2) (b := j) (by omega) (by omega)).mp q) (by omega))) (fun c_1 => ?_)
    refine px (fun _ => pm_aload_n (pc := 24) d_Wk_pair_24 rfl) ?_
    refine px (fun _ => pm_iload (pc := 25) d_Wk_pair_25 rfl) ?_
    refine px (fun _ => pm_iload (pc := 27) d_Wk_pair_27 rfl) ?_
    refine px (fun _ => k_Wk_pair_29 (kc1 := 0) (ks1 := 0) (kc := 0) (ks := 0) (av := [.int (nI i), .int (nI j)]) (st := []) t_a (c_ag (i := i) (j := j) hl H hW ha na (by omega) (by omega)) rfl rfl (Nat.le_of_ble_eq_true rfl)) ?_
    refine px (fun _ => pm_dstore (lv' := [(6, .double (g_ag S a i j)), (5, .int (nI j)), (4, .int (nI i)), (0, .int (0)), (1, .ref (8 + 3 * a)), (2, .ref (8 + 3 * b)), (3, .ref (8 + 3 * o9))]) (pc := 32) d_Wk_pair_32 (by decide) rfl) ?_
    refine px (fun _ => pm_aload_n (pc := 34) d_Wk_pair_34 rfl) ?_
    refine px (fun _ => pm_iload (pc := 35) d_Wk_pair_35 rfl) ?_
    refine px (fun _ => pm_iload (pc := 37) d_Wk_pair_37 rfl) ?_
    refine px (fun _ => k_Wk_pair_39 (kc1 := 0) (ks1 := 0) (kc := 0) (ks := 0) (av := [.int (nI i), .int (nI j)]) (st := []) t_b (c_ag (i := i) (j := j) hl H hW hb nb (by omega) (by omega)) rfl rfl (Nat.le_of_ble_eq_true rfl)) ?_
    refine px (fun _ => pm_dstore (lv' := [(8, .double (g_ag S b i j)), (6, .double (g_ag S a i j)), (5, .int (nI j)), (4, .int (nI i)), (0, .int (0)), (1, .ref (8 + 3 * a)), (2, .ref (8 + 3 * b)), (3, .ref (8 + 3 * o9))]) (pc := 42) d_Wk_pair_42 (by decide) rfl) ?_
    refine px (fun _ => pm_aload_n (pc := 44) d_Wk_pair_44 rfl) ?_
    refine px (fun _ => pm_iload (pc := 45) d_Wk_pair_45 rfl) ?_
    refine px (fun _ => pm_iload (pc := 47) d_Wk_pair_47 rfl) ?_
    refine px (fun _ => pm_aload_n (pc := 49) d_Wk_pair_49 rfl) ?_
    refine px (fun _ => pm_getf fl_Wk_84 (pc := 50) d_Wk_pair_50 t_a rfl) ?_
    refine px (fun _ => pm_iconst (v := 1) (pc := 53) d_Wk_pair_53 rfl) ?_
    refine pxn (fun _ => pm_icmp_ne (pc := 54) (tgt := 71) d_Wk_pair_54 (by decide)) (fun c_2 => ?_) (fun c_2 => ?_)
    · have n_c_2 : ¬ ((gT S a 0) = 1) := fun q => c_2 ((nI_eq (a := (gT S a 0)) (b := 1) (by omega) (by omega)).mpr q)
      refine px (fun _ => pm_iload_n (pc := 71) d_Wk_pair_71 rfl) ?_
      refine px (fun _ => pm_dload (pc := 72) d_Wk_pair_72 rfl) ?_
      refine px (fun _ => pm_dload (pc := 74) d_Wk_pair_74 rfl) ?_
      refine px (fun _ => k_Wk_pair_76 (kc1 := 0) (ks1 := 0) (kc := 0) (ks := 0) (av := [.int (0), .double (g_ag S a i j), .double (g_ag S b i j)]) (st := [.int (nI j), .int (nI i), .ref (8 + 3 * o9)]) (c_pf0 hl (hne i j hi hj n_c_2)) rfl rfl (Nat.le_of_ble_eq_true rfl)) ?_
      obtain ⟨⟨o3, h3⟩, ⟨e3, H3, F3⟩, en3⟩ := c_putf (l := l) (G := G) (fi := fi) (v := g_pf 0 (g_ag S a i j) (g_ag S b i j)) hl H hW ho (i := i) (j := j) (by omega) (by omega)
      dsimp only at e3 H3 F3
      subst e3
      refine px (fun _ => k_Wk_pair_79 (kc1 := 0) (ks1 := 0) (kc := 0) (ks := 0) (av := [.int (nI i), .int (nI j), .double (g_pf 0 (g_ag S a i j) (g_ag S b i j))]) (st := []) t_o9 (en3) rfl rfl (Nat.le_of_ble_eq_true rfl)) ?_
      refine px (fun _ => pm_iinc (x := nI j) (v := nI (j + 1)) (lv' := [(5, .int (nI (j + 1))), (8, .double (g_ag S b i j)), (6, .double (g_ag S a i j)), (4, .int (nI i)), (0, .int (0)), (1, .ref (8 + 3 * a)), (2, .ref (8 + 3 * b)), (3, .ref (8 + 3 * o9))]) (pc := 82) d_Wk_pair_82 rfl (nI_1 _) (by decide) rfl) ?_
      refine px (fun _ => pm_goto (tgt := 15) (pc := 85) d_Wk_pair_85 (by decide)) ?_
      refine pxd [0, 3, 4, 5, 6, 7] rfl ?_
      exact ih i (j + 1) _ _ H3 (F.tr F3) (iv.step (by omega) hj (by show _ = if gT S a 0 = 1 then FP.i2d (g_pi 0 (FP.d2i (g_ag S a i j)) (FP.d2i (g_ag S b i j))) else g_pf 0 (g_ag S a i j) (g_ag S b i j); rw [if_neg (by assumption)])) hi (by omega) K
    · have n_c_2 : (gT S a 0) = 1 := (nI_eq (a := (gT S a 0)) (b := 1) (by omega) (by omega)).mp c_2
      refine px (fun _ => pm_iload_n (pc := 57) d_Wk_pair_57 rfl) ?_
      refine px (fun _ => pm_dload (pc := 58) d_Wk_pair_58 rfl) ?_
      refine px (fun _ => pm_d2i (pc := 60) d_Wk_pair_60) ?_
      refine px (fun _ => pm_dload (pc := 61) d_Wk_pair_61 rfl) ?_
      refine px (fun _ => pm_d2i (pc := 63) d_Wk_pair_63) ?_
      refine px (fun _ => k_Wk_pair_64 (kc1 := 0) (ks1 := 0) (kc := 0) (ks := 0) (av := [.int (0), .int ((FP.d2i (g_ag S a i j))), .int ((FP.d2i (g_ag S b i j)))]) (st := [.int (nI j), .int (nI i), .ref (8 + 3 * o9)]) (c_pi0 hl) rfl rfl (Nat.le_of_ble_eq_true rfl)) ?_
      refine px (fun _ => pm_i2d (pc := 67) d_Wk_pair_67) ?_
      refine px (fun _ => pm_goto (tgt := 79) (pc := 68) d_Wk_pair_68 (by decide)) ?_
      obtain ⟨⟨o4, h4⟩, ⟨e4, H4, F4⟩, en4⟩ := c_putf (l := l) (G := G) (fi := fi) (v := (FP.i2d (g_pi 0 (FP.d2i (g_ag S a i j)) (FP.d2i (g_ag S b i j))))) hl H hW ho (i := i) (j := j) (by omega) (by omega)
      dsimp only at e4 H4 F4
      subst e4
      refine px (fun _ => k_Wk_pair_79 (kc1 := 0) (ks1 := 0) (kc := 0) (ks := 0) (av := [.int (nI i), .int (nI j), .double ((FP.i2d (g_pi 0 (FP.d2i (g_ag S a i j)) (FP.d2i (g_ag S b i j)))))]) (st := []) t_o9 (en4) rfl rfl (Nat.le_of_ble_eq_true rfl)) ?_
      refine px (fun _ => pm_iinc (x := nI j) (v := nI (j + 1)) (lv' := [(5, .int (nI (j + 1))), (8, .double (g_ag S b i j)), (6, .double (g_ag S a i j)), (4, .int (nI i)), (0, .int (0)), (1, .ref (8 + 3 * a)), (2, .ref (8 + 3 * b)), (3, .ref (8 + 3 * o9))]) (pc := 82) d_Wk_pair_82 rfl (nI_1 _) (by decide) rfl) ?_
      refine px (fun _ => pm_goto (tgt := 15) (pc := 85) d_Wk_pair_85 (by decide)) ?_
      refine pxd [0, 3, 4, 5, 6, 7] rfl ?_
      exact ih i (j + 1) _ _ H4 (F.tr F4) (iv.step (by omega) hj (by show _ = if gT S a 0 = 1 then FP.i2d (g_pi 0 (FP.d2i (g_ag S a i j)) (FP.d2i (g_ag S b i j))) else g_pf 0 (g_ag S a i j) (g_ag S b i j); rw [if_pos (by assumption)])) hi (by omega) K
set_option maxHeartbeats 4000000 in
set_option maxRecDepth 20000 in
theorem lpo_pair0 {l : Launch} {G : pm_G} {fi : Bool} {S : gS} {h0 : pm_H} {a b o9 : Nat} (hl : l.stackTraces = false) (hW : gW S) (ho : o9 < 20) (ha : a < 20) (na : a ≠ o9) (hb : b < 20) (nb : b ≠ o9) (hne : ∀ x y, x < gT S o9 1 → y < gT S o9 2 → ¬ gT S a 0 = 1 → vf_n64 (FP.dadd (g_ag S a x y) (g_ag S b x y))) : ∀ (d i : Nat) (f : Nat → UInt64) (h : pm_H), gH (gsC S o9 f) h → gFr h0 h → g_inv (fun x y => if gT S a 0 = 1 then FP.i2d (g_pi 0 (FP.d2i (g_ag S a x y)) (FP.d2i (g_ag S b x y))) else g_pf 0 (g_ag S a x y) (g_ag S b x y)) (gT S o9 2) f (i) (0) → i + d = gT S o9 1 → pm_Px l G fi fi 0 0 M_Wk_pair 3 [(4, .int (nI i)), (0, .int (0)), (1, .ref (8 + 3 * a)), (2, .ref (8 + 3 * b)), (3, .ref (8 + 3 * o9))] [] h (g_Pw S o9 h0 (fun x y => if gT S a 0 = 1 then FP.i2d (g_pi 0 (FP.d2i (g_ag S a x y)) (FP.d2i (g_ag S b x y))) else g_pf 0 (g_ag S a x y) (g_ag S b x y)) (gT S o9 1) (gT S o9 2) (.inl (none))) := by
  intro d
  induction d with
  | zero =>
    intro i f h H F iv hd9
    have bo := hW.2.2.2.2.1 o9 ho
    have ba := hW.2.2.2.2.1 a ha
    have t_a : h[8 + 3 * a]? = some (pm_Ob 2 [.ref (9 + 3 * a), .int (nI (gT S a 0)), .int (nI (gT S a 1)), .int (nI (gT S a 2))]) := (H.2.2.2.2.2.2.1 a ha).2.1
    have t_b : h[8 + 3 * b]? = some (pm_Ob 2 [.ref (9 + 3 * b), .int (nI (gT S b 0)), .int (nI (gT S b 1)), .int (nI (gT S b 2))]) := (H.2.2.2.2.2.2.1 b hb).2.1
    have t_o9 : h[8 + 3 * o9]? = some (pm_Ob 2 [.ref (9 + 3 * o9), .int (nI (gT S o9 0)), .int (nI (gT S o9 1)), .int (nI (gT S o9 2))]) := (H.2.2.2.2.2.2.1 o9 ho).2.1
    have ei : i = gT S o9 1 := by omega
    refine px (fun _ => pm_iload (pc := 3) d_Wk_pair_3 rfl) ?_
    refine px (fun _ => pm_aload_n (pc := 5) d_Wk_pair_5 rfl) ?_
    refine px (fun _ => pm_getf fl_Wk_53 (pc := 6) d_Wk_pair_6 t_o9 rfl) ?_
    refine pxb (fun _ => pm_icmp_ge (pc := 9) (tgt := 94) d_Wk_pair_9 (by decide)) (fun c_1 => ?_) (fun c_1 => absurd (by rw [ei]; exact (nI_leI (a := gT S o9 1) (b := gT S o9 1) (by omega) (by omega)).mpr (Nat.le_refl _)) c_1)
    exact pxr (pm_vret (pc := 94) d_Wk_pair_94 rfl) ⟨rfl, f, H, F, by rw [ei] at iv; exact iv⟩
  | succ d ih =>
    intro i f h H F iv hd9
    have bo := hW.2.2.2.2.1 o9 ho
    have ba := hW.2.2.2.2.1 a ha
    have t_a : h[8 + 3 * a]? = some (pm_Ob 2 [.ref (9 + 3 * a), .int (nI (gT S a 0)), .int (nI (gT S a 1)), .int (nI (gT S a 2))]) := (H.2.2.2.2.2.2.1 a ha).2.1
    have t_b : h[8 + 3 * b]? = some (pm_Ob 2 [.ref (9 + 3 * b), .int (nI (gT S b 0)), .int (nI (gT S b 1)), .int (nI (gT S b 2))]) := (H.2.2.2.2.2.2.1 b hb).2.1
    have t_o9 : h[8 + 3 * o9]? = some (pm_Ob 2 [.ref (9 + 3 * o9), .int (nI (gT S o9 0)), .int (nI (gT S o9 1)), .int (nI (gT S o9 2))]) := (H.2.2.2.2.2.2.1 o9 ho).2.1
    refine px (fun _ => pm_iload (pc := 3) d_Wk_pair_3 rfl) ?_
    refine px (fun _ => pm_aload_n (pc := 5) d_Wk_pair_5 rfl) ?_
    refine px (fun _ => pm_getf fl_Wk_53 (pc := 6) d_Wk_pair_6 t_o9 rfl) ?_
    refine pxb (fun _ => pm_icmp_ge (pc := 9) (tgt := 94) d_Wk_pair_9 (by decide)) (fun c_1 => absurd c_1 (fun q => absurd ((nI_leI (a := gT S o9 1) (b := i) (by omega) (by omega)).mp q) (by omega))) (fun c_1 => ?_)
    refine px (fun _ => pm_iconst (v := 0) (pc := 12) d_Wk_pair_12 rfl) ?_
    refine px (fun _ => pm_istore (lv' := [(5, .int (0)), (4, .int (nI i)), (0, .int (0)), (1, .ref (8 + 3 * a)), (2, .ref (8 + 3 * b)), (3, .ref (8 + 3 * o9))]) (pc := 13) d_Wk_pair_13 (by decide) rfl) ?_
    refine pxd [0, 1, 2, 3, 4, 5] rfl ?_
    exact lpi_pair0 hl hW ho ha na hb nb hne (gT S o9 2) i 0 f h H F iv (by omega) (by omega) (fun f1 h1 a1 a2 a3 => ih (i + 1) f1 h1 a1 a2 a3 (by omega))
set_option maxHeartbeats 4000000 in
set_option maxRecDepth 20000 in
theorem w_pair0 {l : Launch} {G : pm_G} {fi : Bool} {h : pm_H} {S : gS} {a b o9 : Nat} (hl : l.stackTraces = false) (H : gH S h) (hW : gW S) (ho : o9 < 20) (ha : a < 20) (na : a ≠ o9) (hb : b < 20) (nb : b ≠ o9) (hne : ∀ x y, x < gT S o9 1 → y < gT S o9 2 → ¬ gT S a 0 = 1 → vf_n64 (FP.dadd (g_ag S a x y) (g_ag S b x y))) : pm_Cn l G fi fi 0 0 M_Wk_pair [.int (0), .ref (8 + 3 * a), .ref (8 + 3 * b), .ref (8 + 3 * o9)] h (g_Pw S o9 h (fun x y => if gT S a 0 = 1 then FP.i2d (g_pi 0 (FP.d2i (g_ag S a x y)) (FP.d2i (g_ag S b x y))) else g_pf 0 (g_ag S a x y) (g_ag S b x y)) (gT S o9 1) (gT S o9 2) (.inl (none))) := by
  refine pm_Cn.of hl (by decide) (Nat.le_of_ble_eq_true rfl) ?_
  refine px (fun _ => pm_iconst (v := 0) (pc := 0) d_Wk_pair_0 rfl) ?_
  refine px (fun _ => pm_istore (lv' := [(4, .int (0)), (0, .int (0)), (1, .ref (8 + 3 * a)), (2, .ref (8 + 3 * b)), (3, .ref (8 + 3 * o9))]) (pc := 1) d_Wk_pair_1 (by decide) rfl) ?_
  exact lpo_pair0 hl hW ho ha na hb nb hne (gT S o9 1) 0 (gC S o9) h (by rw [gsC_self]; exact H) (gFr.rf h) g_inv.z (by omega)
set_option maxHeartbeats 4000000 in
set_option maxRecDepth 20000 in
theorem lpi_pair1 {l : Launch} {G : pm_G} {fi : Bool} {S : gS} {h0 : pm_H} {a b o9 : Nat} (hl : l.stackTraces = false) (hW : gW S) (ho : o9 < 20) (ha : a < 20) (na : a ≠ o9) (hb : b < 20) (nb : b ≠ o9) (hne : ∀ x y, x < gT S o9 1 → y < gT S o9 2 → ¬ gT S a 0 = 1 → vf_n64 (FP.dsub (g_ag S a x y) (g_ag S b x y))) : ∀ (d i j : Nat) (f : Nat → UInt64) (h : pm_H), gH (gsC S o9 f) h → gFr h0 h → g_inv (fun x y => if gT S a 0 = 1 then FP.i2d (g_pi 1 (FP.d2i (g_ag S a x y)) (FP.d2i (g_ag S b x y))) else g_pf 1 (g_ag S a x y) (g_ag S b x y)) (gT S o9 2) f (i) (j) → i < gT S o9 1 → j + d = gT S o9 2 → (∀ f1 h1, gH (gsC S o9 f1) h1 → gFr h0 h1 → g_inv (fun x y => if gT S a 0 = 1 then FP.i2d (g_pi 1 (FP.d2i (g_ag S a x y)) (FP.d2i (g_ag S b x y))) else g_pf 1 (g_ag S a x y) (g_ag S b x y)) (gT S o9 2) f1 (i + 1) (0) → pm_Px l G fi fi 0 0 M_Wk_pair 3 [(4, .int (nI (i + 1))), (0, .int (1)), (1, .ref (8 + 3 * a)), (2, .ref (8 + 3 * b)), (3, .ref (8 + 3 * o9))] [] h1 (g_Pw S o9 h0 (fun x y => if gT S a 0 = 1 then FP.i2d (g_pi 1 (FP.d2i (g_ag S a x y)) (FP.d2i (g_ag S b x y))) else g_pf 1 (g_ag S a x y) (g_ag S b x y)) (gT S o9 1) (gT S o9 2) (.inl (none)))) → pm_Px l G fi fi 0 0 M_Wk_pair 15 [(5, .int (nI j)), (4, .int (nI i)), (0, .int (1)), (1, .ref (8 + 3 * a)), (2, .ref (8 + 3 * b)), (3, .ref (8 + 3 * o9))] [] h (g_Pw S o9 h0 (fun x y => if gT S a 0 = 1 then FP.i2d (g_pi 1 (FP.d2i (g_ag S a x y)) (FP.d2i (g_ag S b x y))) else g_pf 1 (g_ag S a x y) (g_ag S b x y)) (gT S o9 1) (gT S o9 2) (.inl (none))) := by
  intro d
  induction d with
  | zero =>
    intro i j f h H F iv hi hd9 K
    have bo := hW.2.2.2.2.1 o9 ho
    have ba := hW.2.2.2.2.1 a ha
    have t_a : h[8 + 3 * a]? = some (pm_Ob 2 [.ref (9 + 3 * a), .int (nI (gT S a 0)), .int (nI (gT S a 1)), .int (nI (gT S a 2))]) := (H.2.2.2.2.2.2.1 a ha).2.1
    have t_b : h[8 + 3 * b]? = some (pm_Ob 2 [.ref (9 + 3 * b), .int (nI (gT S b 0)), .int (nI (gT S b 1)), .int (nI (gT S b 2))]) := (H.2.2.2.2.2.2.1 b hb).2.1
    have t_o9 : h[8 + 3 * o9]? = some (pm_Ob 2 [.ref (9 + 3 * o9), .int (nI (gT S o9 0)), .int (nI (gT S o9 1)), .int (nI (gT S o9 2))]) := (H.2.2.2.2.2.2.1 o9 ho).2.1
    have ej : j = gT S o9 2 := by omega
    refine px (fun _ => pm_iload (pc := 15) d_Wk_pair_15 rfl) ?_
    refine px (fun _ => pm_aload_n (pc := 17) d_Wk_pair_17 rfl) ?_
    refine px (fun _ => pm_getf fl_Wk_58 (pc := 18) d_Wk_pair_18 t_o9 rfl) ?_
    refine pxb (fun _ => pm_icmp_ge (pc := 21) (tgt := 88) d_Wk_pair_21 (by decide)) (fun c_1 => ?_) (fun c_1 => absurd (by rw [ej]; exact (nI_leI (a := gT S o9 2) (b := gT S o9 2) (by omega) (by omega)).mpr (Nat.le_refl _)) c_1)
    refine px (fun _ => pm_iinc (x := nI i) (v := nI (i + 1)) (lv' := [(4, .int (nI (i + 1))), (5, .int (nI j)), (0, .int (1)), (1, .ref (8 + 3 * a)), (2, .ref (8 + 3 * b)), (3, .ref (8 + 3 * o9))]) (pc := 88) d_Wk_pair_88 rfl (nI_1 _) (by decide) rfl) ?_
    refine px (fun _ => pm_goto (tgt := 3) (pc := 91) d_Wk_pair_91 (by decide)) ?_
    refine pxd [0, 2, 3, 4, 5] rfl ?_
    exact K f h H F (by rw [ej] at iv; exact iv.row)
  | succ d ih =>
    intro i j f h H F iv hi hd9 K
    have bo := hW.2.2.2.2.1 o9 ho
    have ba := hW.2.2.2.2.1 a ha
    have t_a : h[8 + 3 * a]? = some (pm_Ob 2 [.ref (9 + 3 * a), .int (nI (gT S a 0)), .int (nI (gT S a 1)), .int (nI (gT S a 2))]) := (H.2.2.2.2.2.2.1 a ha).2.1
    have t_b : h[8 + 3 * b]? = some (pm_Ob 2 [.ref (9 + 3 * b), .int (nI (gT S b 0)), .int (nI (gT S b 1)), .int (nI (gT S b 2))]) := (H.2.2.2.2.2.2.1 b hb).2.1
    have t_o9 : h[8 + 3 * o9]? = some (pm_Ob 2 [.ref (9 + 3 * o9), .int (nI (gT S o9 0)), .int (nI (gT S o9 1)), .int (nI (gT S o9 2))]) := (H.2.2.2.2.2.2.1 o9 ho).2.1
    have hj : j < gT S o9 2 := by omega
    have hi4 : i < 4 := by omega
    have hj4 : j < 4 := by omega
    refine px (fun _ => pm_iload (pc := 15) d_Wk_pair_15 rfl) ?_
    refine px (fun _ => pm_aload_n (pc := 17) d_Wk_pair_17 rfl) ?_
    refine px (fun _ => pm_getf fl_Wk_58 (pc := 18) d_Wk_pair_18 t_o9 rfl) ?_
    refine pxb (fun _ => pm_icmp_ge (pc := 21) (tgt := 88) d_Wk_pair_21 (by decide)) (fun c_1 => absurd c_1 (fun q => absurd ((nI_leI (a := gT S o9 2) (b := j) (by omega) (by omega)).mp q) (by omega))) (fun c_1 => ?_)
    refine px (fun _ => pm_aload_n (pc := 24) d_Wk_pair_24 rfl) ?_
    refine px (fun _ => pm_iload (pc := 25) d_Wk_pair_25 rfl) ?_
    refine px (fun _ => pm_iload (pc := 27) d_Wk_pair_27 rfl) ?_
    refine px (fun _ => k_Wk_pair_29 (kc1 := 0) (ks1 := 0) (kc := 0) (ks := 0) (av := [.int (nI i), .int (nI j)]) (st := []) t_a (c_ag (i := i) (j := j) hl H hW ha na (by omega) (by omega)) rfl rfl (Nat.le_of_ble_eq_true rfl)) ?_
    refine px (fun _ => pm_dstore (lv' := [(6, .double (g_ag S a i j)), (5, .int (nI j)), (4, .int (nI i)), (0, .int (1)), (1, .ref (8 + 3 * a)), (2, .ref (8 + 3 * b)), (3, .ref (8 + 3 * o9))]) (pc := 32) d_Wk_pair_32 (by decide) rfl) ?_
    refine px (fun _ => pm_aload_n (pc := 34) d_Wk_pair_34 rfl) ?_
    refine px (fun _ => pm_iload (pc := 35) d_Wk_pair_35 rfl) ?_
    refine px (fun _ => pm_iload (pc := 37) d_Wk_pair_37 rfl) ?_
    refine px (fun _ => k_Wk_pair_39 (kc1 := 0) (ks1 := 0) (kc := 0) (ks := 0) (av := [.int (nI i), .int (nI j)]) (st := []) t_b (c_ag (i := i) (j := j) hl H hW hb nb (by omega) (by omega)) rfl rfl (Nat.le_of_ble_eq_true rfl)) ?_
    refine px (fun _ => pm_dstore (lv' := [(8, .double (g_ag S b i j)), (6, .double (g_ag S a i j)), (5, .int (nI j)), (4, .int (nI i)), (0, .int (1)), (1, .ref (8 + 3 * a)), (2, .ref (8 + 3 * b)), (3, .ref (8 + 3 * o9))]) (pc := 42) d_Wk_pair_42 (by decide) rfl) ?_
    refine px (fun _ => pm_aload_n (pc := 44) d_Wk_pair_44 rfl) ?_
    refine px (fun _ => pm_iload (pc := 45) d_Wk_pair_45 rfl) ?_
    refine px (fun _ => pm_iload (pc := 47) d_Wk_pair_47 rfl) ?_
    refine px (fun _ => pm_aload_n (pc := 49) d_Wk_pair_49 rfl) ?_
    refine px (fun _ => pm_getf fl_Wk_84 (pc := 50) d_Wk_pair_50 t_a rfl) ?_
    refine px (fun _ => pm_iconst (v := 1) (pc := 53) d_Wk_pair_53 rfl) ?_
    refine pxn (fun _ => pm_icmp_ne (pc := 54) (tgt := 71) d_Wk_pair_54 (by decide)) (fun c_2 => ?_) (fun c_2 => ?_)
    · have n_c_2 : ¬ ((gT S a 0) = 1) := fun q => c_2 ((nI_eq (a := (gT S a 0)) (b := 1) (by omega) (by omega)).mpr q)
      refine px (fun _ => pm_iload_n (pc := 71) d_Wk_pair_71 rfl) ?_
      refine px (fun _ => pm_dload (pc := 72) d_Wk_pair_72 rfl) ?_
      refine px (fun _ => pm_dload (pc := 74) d_Wk_pair_74 rfl) ?_
      refine px (fun _ => k_Wk_pair_76 (kc1 := 0) (ks1 := 0) (kc := 0) (ks := 0) (av := [.int (1), .double (g_ag S a i j), .double (g_ag S b i j)]) (st := [.int (nI j), .int (nI i), .ref (8 + 3 * o9)]) (c_pf1 hl (hne i j hi hj n_c_2)) rfl rfl (Nat.le_of_ble_eq_true rfl)) ?_
      obtain ⟨⟨o3, h3⟩, ⟨e3, H3, F3⟩, en3⟩ := c_putf (l := l) (G := G) (fi := fi) (v := g_pf 1 (g_ag S a i j) (g_ag S b i j)) hl H hW ho (i := i) (j := j) (by omega) (by omega)
      dsimp only at e3 H3 F3
      subst e3
      refine px (fun _ => k_Wk_pair_79 (kc1 := 0) (ks1 := 0) (kc := 0) (ks := 0) (av := [.int (nI i), .int (nI j), .double (g_pf 1 (g_ag S a i j) (g_ag S b i j))]) (st := []) t_o9 (en3) rfl rfl (Nat.le_of_ble_eq_true rfl)) ?_
      refine px (fun _ => pm_iinc (x := nI j) (v := nI (j + 1)) (lv' := [(5, .int (nI (j + 1))), (8, .double (g_ag S b i j)), (6, .double (g_ag S a i j)), (4, .int (nI i)), (0, .int (1)), (1, .ref (8 + 3 * a)), (2, .ref (8 + 3 * b)), (3, .ref (8 + 3 * o9))]) (pc := 82) d_Wk_pair_82 rfl (nI_1 _) (by decide) rfl) ?_
      refine px (fun _ => pm_goto (tgt := 15) (pc := 85) d_Wk_pair_85 (by decide)) ?_
      refine pxd [0, 3, 4, 5, 6, 7] rfl ?_
      exact ih i (j + 1) _ _ H3 (F.tr F3) (iv.step (by omega) hj (by show _ = if gT S a 0 = 1 then FP.i2d (g_pi 1 (FP.d2i (g_ag S a i j)) (FP.d2i (g_ag S b i j))) else g_pf 1 (g_ag S a i j) (g_ag S b i j); rw [if_neg (by assumption)])) hi (by omega) K
    · have n_c_2 : (gT S a 0) = 1 := (nI_eq (a := (gT S a 0)) (b := 1) (by omega) (by omega)).mp c_2
      refine px (fun _ => pm_iload_n (pc := 57) d_Wk_pair_57 rfl) ?_
      refine px (fun _ => pm_dload (pc := 58) d_Wk_pair_58 rfl) ?_
      refine px (fun _ => pm_d2i (pc := 60) d_Wk_pair_60) ?_
      refine px (fun _ => pm_dload (pc := 61) d_Wk_pair_61 rfl) ?_
      refine px (fun _ => pm_d2i (pc := 63) d_Wk_pair_63) ?_
      refine px (fun _ => k_Wk_pair_64 (kc1 := 0) (ks1 := 0) (kc := 0) (ks := 0) (av := [.int (1), .int ((FP.d2i (g_ag S a i j))), .int ((FP.d2i (g_ag S b i j)))]) (st := [.int (nI j), .int (nI i), .ref (8 + 3 * o9)]) (c_pi1 hl) rfl rfl (Nat.le_of_ble_eq_true rfl)) ?_
      refine px (fun _ => pm_i2d (pc := 67) d_Wk_pair_67) ?_
      refine px (fun _ => pm_goto (tgt := 79) (pc := 68) d_Wk_pair_68 (by decide)) ?_
      obtain ⟨⟨o4, h4⟩, ⟨e4, H4, F4⟩, en4⟩ := c_putf (l := l) (G := G) (fi := fi) (v := (FP.i2d (g_pi 1 (FP.d2i (g_ag S a i j)) (FP.d2i (g_ag S b i j))))) hl H hW ho (i := i) (j := j) (by omega) (by omega)
      dsimp only at e4 H4 F4
      subst e4
      refine px (fun _ => k_Wk_pair_79 (kc1 := 0) (ks1 := 0) (kc := 0) (ks := 0) (av := [.int (nI i), .int (nI j), .double ((FP.i2d (g_pi 1 (FP.d2i (g_ag S a i j)) (FP.d2i (g_ag S b i j)))))]) (st := []) t_o9 (en4) rfl rfl (Nat.le_of_ble_eq_true rfl)) ?_
      refine px (fun _ => pm_iinc (x := nI j) (v := nI (j + 1)) (lv' := [(5, .int (nI (j + 1))), (8, .double (g_ag S b i j)), (6, .double (g_ag S a i j)), (4, .int (nI i)), (0, .int (1)), (1, .ref (8 + 3 * a)), (2, .ref (8 + 3 * b)), (3, .ref (8 + 3 * o9))]) (pc := 82) d_Wk_pair_82 rfl (nI_1 _) (by decide) rfl) ?_
      refine px (fun _ => pm_goto (tgt := 15) (pc := 85) d_Wk_pair_85 (by decide)) ?_
      refine pxd [0, 3, 4, 5, 6, 7] rfl ?_
      exact ih i (j + 1) _ _ H4 (F.tr F4) (iv.step (by omega) hj (by show _ = if gT S a 0 = 1 then FP.i2d (g_pi 1 (FP.d2i (g_ag S a i j)) (FP.d2i (g_ag S b i j))) else g_pf 1 (g_ag S a i j) (g_ag S b i j); rw [if_pos (by assumption)])) hi (by omega) K
set_option maxHeartbeats 4000000 in
set_option maxRecDepth 20000 in
theorem lpo_pair1 {l : Launch} {G : pm_G} {fi : Bool} {S : gS} {h0 : pm_H} {a b o9 : Nat} (hl : l.stackTraces = false) (hW : gW S) (ho : o9 < 20) (ha : a < 20) (na : a ≠ o9) (hb : b < 20) (nb : b ≠ o9) (hne : ∀ x y, x < gT S o9 1 → y < gT S o9 2 → ¬ gT S a 0 = 1 → vf_n64 (FP.dsub (g_ag S a x y) (g_ag S b x y))) : ∀ (d i : Nat) (f : Nat → UInt64) (h : pm_H), gH (gsC S o9 f) h → gFr h0 h → g_inv (fun x y => if gT S a 0 = 1 then FP.i2d (g_pi 1 (FP.d2i (g_ag S a x y)) (FP.d2i (g_ag S b x y))) else g_pf 1 (g_ag S a x y) (g_ag S b x y)) (gT S o9 2) f (i) (0) → i + d = gT S o9 1 → pm_Px l G fi fi 0 0 M_Wk_pair 3 [(4, .int (nI i)), (0, .int (1)), (1, .ref (8 + 3 * a)), (2, .ref (8 + 3 * b)), (3, .ref (8 + 3 * o9))] [] h (g_Pw S o9 h0 (fun x y => if gT S a 0 = 1 then FP.i2d (g_pi 1 (FP.d2i (g_ag S a x y)) (FP.d2i (g_ag S b x y))) else g_pf 1 (g_ag S a x y) (g_ag S b x y)) (gT S o9 1) (gT S o9 2) (.inl (none))) := by
  intro d
  induction d with
  | zero =>
    intro i f h H F iv hd9
    have bo := hW.2.2.2.2.1 o9 ho
    have ba := hW.2.2.2.2.1 a ha
    have t_a : h[8 + 3 * a]? = some (pm_Ob 2 [.ref (9 + 3 * a), .int (nI (gT S a 0)), .int (nI (gT S a 1)), .int (nI (gT S a 2))]) := (H.2.2.2.2.2.2.1 a ha).2.1
    have t_b : h[8 + 3 * b]? = some (pm_Ob 2 [.ref (9 + 3 * b), .int (nI (gT S b 0)), .int (nI (gT S b 1)), .int (nI (gT S b 2))]) := (H.2.2.2.2.2.2.1 b hb).2.1
    have t_o9 : h[8 + 3 * o9]? = some (pm_Ob 2 [.ref (9 + 3 * o9), .int (nI (gT S o9 0)), .int (nI (gT S o9 1)), .int (nI (gT S o9 2))]) := (H.2.2.2.2.2.2.1 o9 ho).2.1
    have ei : i = gT S o9 1 := by omega
    refine px (fun _ => pm_iload (pc := 3) d_Wk_pair_3 rfl) ?_
    refine px (fun _ => pm_aload_n (pc := 5) d_Wk_pair_5 rfl) ?_
    refine px (fun _ => pm_getf fl_Wk_53 (pc := 6) d_Wk_pair_6 t_o9 rfl) ?_
    refine pxb (fun _ => pm_icmp_ge (pc := 9) (tgt := 94) d_Wk_pair_9 (by decide)) (fun c_1 => ?_) (fun c_1 => absurd (by rw [ei]; exact (nI_leI (a := gT S o9 1) (b := gT S o9 1) (by omega) (by omega)).mpr (Nat.le_refl _)) c_1)
    exact pxr (pm_vret (pc := 94) d_Wk_pair_94 rfl) ⟨rfl, f, H, F, by rw [ei] at iv; exact iv⟩
  | succ d ih =>
    intro i f h H F iv hd9
    have bo := hW.2.2.2.2.1 o9 ho
    have ba := hW.2.2.2.2.1 a ha
    have t_a : h[8 + 3 * a]? = some (pm_Ob 2 [.ref (9 + 3 * a), .int (nI (gT S a 0)), .int (nI (gT S a 1)), .int (nI (gT S a 2))]) := (H.2.2.2.2.2.2.1 a ha).2.1
    have t_b : h[8 + 3 * b]? = some (pm_Ob 2 [.ref (9 + 3 * b), .int (nI (gT S b 0)), .int (nI (gT S b 1)), .int (nI (gT S b 2))]) := (H.2.2.2.2.2.2.1 b hb).2.1
    have t_o9 : h[8 + 3 * o9]? = some (pm_Ob 2 [.ref (9 + 3 * o9), .int (nI (gT S o9 0)), .int (nI (gT S o9 1)), .int (nI (gT S o9 2))]) := (H.2.2.2.2.2.2.1 o9 ho).2.1
    refine px (fun _ => pm_iload (pc := 3) d_Wk_pair_3 rfl) ?_
    refine px (fun _ => pm_aload_n (pc := 5) d_Wk_pair_5 rfl) ?_
    refine px (fun _ => pm_getf fl_Wk_53 (pc := 6) d_Wk_pair_6 t_o9 rfl) ?_
    refine pxb (fun _ => pm_icmp_ge (pc := 9) (tgt := 94) d_Wk_pair_9 (by decide)) (fun c_1 => absurd c_1 (fun q => absurd ((nI_leI (a := gT S o9 1) (b := i) (by omega) (by omega)).mp q) (by omega))) (fun c_1 => ?_)
    refine px (fun _ => pm_iconst (v := 0) (pc := 12) d_Wk_pair_12 rfl) ?_
    refine px (fun _ => pm_istore (lv' := [(5, .int (0)), (4, .int (nI i)), (0, .int (1)), (1, .ref (8 + 3 * a)), (2, .ref (8 + 3 * b)), (3, .ref (8 + 3 * o9))]) (pc := 13) d_Wk_pair_13 (by decide) rfl) ?_
    refine pxd [0, 1, 2, 3, 4, 5] rfl ?_
    exact lpi_pair1 hl hW ho ha na hb nb hne (gT S o9 2) i 0 f h H F iv (by omega) (by omega) (fun f1 h1 a1 a2 a3 => ih (i + 1) f1 h1 a1 a2 a3 (by omega))
set_option maxHeartbeats 4000000 in
set_option maxRecDepth 20000 in
theorem w_pair1 {l : Launch} {G : pm_G} {fi : Bool} {h : pm_H} {S : gS} {a b o9 : Nat} (hl : l.stackTraces = false) (H : gH S h) (hW : gW S) (ho : o9 < 20) (ha : a < 20) (na : a ≠ o9) (hb : b < 20) (nb : b ≠ o9) (hne : ∀ x y, x < gT S o9 1 → y < gT S o9 2 → ¬ gT S a 0 = 1 → vf_n64 (FP.dsub (g_ag S a x y) (g_ag S b x y))) : pm_Cn l G fi fi 0 0 M_Wk_pair [.int (1), .ref (8 + 3 * a), .ref (8 + 3 * b), .ref (8 + 3 * o9)] h (g_Pw S o9 h (fun x y => if gT S a 0 = 1 then FP.i2d (g_pi 1 (FP.d2i (g_ag S a x y)) (FP.d2i (g_ag S b x y))) else g_pf 1 (g_ag S a x y) (g_ag S b x y)) (gT S o9 1) (gT S o9 2) (.inl (none))) := by
  refine pm_Cn.of hl (by decide) (Nat.le_of_ble_eq_true rfl) ?_
  refine px (fun _ => pm_iconst (v := 0) (pc := 0) d_Wk_pair_0 rfl) ?_
  refine px (fun _ => pm_istore (lv' := [(4, .int (0)), (0, .int (1)), (1, .ref (8 + 3 * a)), (2, .ref (8 + 3 * b)), (3, .ref (8 + 3 * o9))]) (pc := 1) d_Wk_pair_1 (by decide) rfl) ?_
  exact lpo_pair1 hl hW ho ha na hb nb hne (gT S o9 1) 0 (gC S o9) h (by rw [gsC_self]; exact H) (gFr.rf h) g_inv.z (by omega)
set_option maxHeartbeats 4000000 in
set_option maxRecDepth 20000 in
theorem lpi_pair2 {l : Launch} {G : pm_G} {fi : Bool} {S : gS} {h0 : pm_H} {a b o9 : Nat} (hl : l.stackTraces = false) (hW : gW S) (ho : o9 < 20) (ha : a < 20) (na : a ≠ o9) (hb : b < 20) (nb : b ≠ o9) (hne : ∀ x y, x < gT S o9 1 → y < gT S o9 2 → ¬ gT S a 0 = 1 → vf_n64 (FP.dmul (g_ag S a x y) (g_ag S b x y))) : ∀ (d i j : Nat) (f : Nat → UInt64) (h : pm_H), gH (gsC S o9 f) h → gFr h0 h → g_inv (fun x y => if gT S a 0 = 1 then FP.i2d (g_pi 2 (FP.d2i (g_ag S a x y)) (FP.d2i (g_ag S b x y))) else g_pf 2 (g_ag S a x y) (g_ag S b x y)) (gT S o9 2) f (i) (j) → i < gT S o9 1 → j + d = gT S o9 2 → (∀ f1 h1, gH (gsC S o9 f1) h1 → gFr h0 h1 → g_inv (fun x y => if gT S a 0 = 1 then FP.i2d (g_pi 2 (FP.d2i (g_ag S a x y)) (FP.d2i (g_ag S b x y))) else g_pf 2 (g_ag S a x y) (g_ag S b x y)) (gT S o9 2) f1 (i + 1) (0) → pm_Px l G fi fi 0 0 M_Wk_pair 3 [(4, .int (nI (i + 1))), (0, .int (2)), (1, .ref (8 + 3 * a)), (2, .ref (8 + 3 * b)), (3, .ref (8 + 3 * o9))] [] h1 (g_Pw S o9 h0 (fun x y => if gT S a 0 = 1 then FP.i2d (g_pi 2 (FP.d2i (g_ag S a x y)) (FP.d2i (g_ag S b x y))) else g_pf 2 (g_ag S a x y) (g_ag S b x y)) (gT S o9 1) (gT S o9 2) (.inl (none)))) → pm_Px l G fi fi 0 0 M_Wk_pair 15 [(5, .int (nI j)), (4, .int (nI i)), (0, .int (2)), (1, .ref (8 + 3 * a)), (2, .ref (8 + 3 * b)), (3, .ref (8 + 3 * o9))] [] h (g_Pw S o9 h0 (fun x y => if gT S a 0 = 1 then FP.i2d (g_pi 2 (FP.d2i (g_ag S a x y)) (FP.d2i (g_ag S b x y))) else g_pf 2 (g_ag S a x y) (g_ag S b x y)) (gT S o9 1) (gT S o9 2) (.inl (none))) := by
  intro d
  induction d with
  | zero =>
    intro i j f h H F iv hi hd9 K
    have bo := hW.2.2.2.2.1 o9 ho
    have ba := hW.2.2.2.2.1 a ha
    have t_a : h[8 + 3 * a]? = some (pm_Ob 2 [.ref (9 + 3 * a), .int (nI (gT S a 0)), .int (nI (gT S a 1)), .int (nI (gT S a 2))]) := (H.2.2.2.2.2.2.1 a ha).2.1
    have t_b : h[8 + 3 * b]? = some (pm_Ob 2 [.ref (9 + 3 * b), .int (nI (gT S b 0)), .int (nI (gT S b 1)), .int (nI (gT S b 2))]) := (H.2.2.2.2.2.2.1 b hb).2.1
    have t_o9 : h[8 + 3 * o9]? = some (pm_Ob 2 [.ref (9 + 3 * o9), .int (nI (gT S o9 0)), .int (nI (gT S o9 1)), .int (nI (gT S o9 2))]) := (H.2.2.2.2.2.2.1 o9 ho).2.1
    have ej : j = gT S o9 2 := by omega
    refine px (fun _ => pm_iload (pc := 15) d_Wk_pair_15 rfl) ?_
    refine px (fun _ => pm_aload_n (pc := 17) d_Wk_pair_17 rfl) ?_
    refine px (fun _ => pm_getf fl_Wk_58 (pc := 18) d_Wk_pair_18 t_o9 rfl) ?_
    refine pxb (fun _ => pm_icmp_ge (pc := 21) (tgt := 88) d_Wk_pair_21 (by decide)) (fun c_1 => ?_) (fun c_1 => absurd (by rw [ej]; exact (nI_leI (a := gT S o9 2) (b := gT S o9 2) (by omega) (by omega)).mpr (Nat.le_refl _)) c_1)
    refine px (fun _ => pm_iinc (x := nI i) (v := nI (i + 1)) (lv' := [(4, .int (nI (i + 1))), (5, .int (nI j)), (0, .int (2)), (1, .ref (8 + 3 * a)), (2, .ref (8 + 3 * b)), (3, .ref (8 + 3 * o9))]) (pc := 88) d_Wk_pair_88 rfl (nI_1 _) (by decide) rfl) ?_
    refine px (fun _ => pm_goto (tgt := 3) (pc := 91) d_Wk_pair_91 (by decide)) ?_
    refine pxd [0, 2, 3, 4, 5] rfl ?_
    exact K f h H F (by rw [ej] at iv; exact iv.row)
  | succ d ih =>
    intro i j f h H F iv hi hd9 K
    have bo := hW.2.2.2.2.1 o9 ho
    have ba := hW.2.2.2.2.1 a ha
    have t_a : h[8 + 3 * a]? = some (pm_Ob 2 [.ref (9 + 3 * a), .int (nI (gT S a 0)), .int (nI (gT S a 1)), .int (nI (gT S a 2))]) := (H.2.2.2.2.2.2.1 a ha).2.1
    have t_b : h[8 + 3 * b]? = some (pm_Ob 2 [.ref (9 + 3 * b), .int (nI (gT S b 0)), .int (nI (gT S b 1)), .int (nI (gT S b 2))]) := (H.2.2.2.2.2.2.1 b hb).2.1
    have t_o9 : h[8 + 3 * o9]? = some (pm_Ob 2 [.ref (9 + 3 * o9), .int (nI (gT S o9 0)), .int (nI (gT S o9 1)), .int (nI (gT S o9 2))]) := (H.2.2.2.2.2.2.1 o9 ho).2.1
    have hj : j < gT S o9 2 := by omega
    have hi4 : i < 4 := by omega
    have hj4 : j < 4 := by omega
    refine px (fun _ => pm_iload (pc := 15) d_Wk_pair_15 rfl) ?_
    refine px (fun _ => pm_aload_n (pc := 17) d_Wk_pair_17 rfl) ?_
    refine px (fun _ => pm_getf fl_Wk_58 (pc := 18) d_Wk_pair_18 t_o9 rfl) ?_
    refine pxb (fun _ => pm_icmp_ge (pc := 21) (tgt := 88) d_Wk_pair_21 (by decide)) (fun c_1 => absurd c_1 (fun q => absurd ((nI_leI (a := gT S o9 2) (b := j) (by omega) (by omega)).mp q) (by omega))) (fun c_1 => ?_)
    refine px (fun _ => pm_aload_n (pc := 24) d_Wk_pair_24 rfl) ?_
    refine px (fun _ => pm_iload (pc := 25) d_Wk_pair_25 rfl) ?_
    refine px (fun _ => pm_iload (pc := 27) d_Wk_pair_27 rfl) ?_
    refine px (fun _ => k_Wk_pair_29 (kc1 := 0) (ks1 := 0) (kc := 0) (ks := 0) (av := [.int (nI i), .int (nI j)]) (st := []) t_a (c_ag (i := i) (j := j) hl H hW ha na (by omega) (by omega)) rfl rfl (Nat.le_of_ble_eq_true rfl)) ?_
    refine px (fun _ => pm_dstore (lv' := [(6, .double (g_ag S a i j)), (5, .int (nI j)), (4, .int (nI i)), (0, .int (2)), (1, .ref (8 + 3 * a)), (2, .ref (8 + 3 * b)), (3, .ref (8 + 3 * o9))]) (pc := 32) d_Wk_pair_32 (by decide) rfl) ?_
    refine px (fun _ => pm_aload_n (pc := 34) d_Wk_pair_34 rfl) ?_
    refine px (fun _ => pm_iload (pc := 35) d_Wk_pair_35 rfl) ?_
    refine px (fun _ => pm_iload (pc := 37) d_Wk_pair_37 rfl) ?_
    refine px (fun _ => k_Wk_pair_39 (kc1 := 0) (ks1 := 0) (kc := 0) (ks := 0) (av := [.int (nI i), .int (nI j)]) (st := []) t_b (c_ag (i := i) (j := j) hl H hW hb nb (by omega) (by omega)) rfl rfl (Nat.le_of_ble_eq_true rfl)) ?_
    refine px (fun _ => pm_dstore (lv' := [(8, .double (g_ag S b i j)), (6, .double (g_ag S a i j)), (5, .int (nI j)), (4, .int (nI i)), (0, .int (2)), (1, .ref (8 + 3 * a)), (2, .ref (8 + 3 * b)), (3, .ref (8 + 3 * o9))]) (pc := 42) d_Wk_pair_42 (by decide) rfl) ?_
    refine px (fun _ => pm_aload_n (pc := 44) d_Wk_pair_44 rfl) ?_
    refine px (fun _ => pm_iload (pc := 45) d_Wk_pair_45 rfl) ?_
    refine px (fun _ => pm_iload (pc := 47) d_Wk_pair_47 rfl) ?_
    refine px (fun _ => pm_aload_n (pc := 49) d_Wk_pair_49 rfl) ?_
    refine px (fun _ => pm_getf fl_Wk_84 (pc := 50) d_Wk_pair_50 t_a rfl) ?_
    refine px (fun _ => pm_iconst (v := 1) (pc := 53) d_Wk_pair_53 rfl) ?_
    refine pxn (fun _ => pm_icmp_ne (pc := 54) (tgt := 71) d_Wk_pair_54 (by decide)) (fun c_2 => ?_) (fun c_2 => ?_)
    · have n_c_2 : ¬ ((gT S a 0) = 1) := fun q => c_2 ((nI_eq (a := (gT S a 0)) (b := 1) (by omega) (by omega)).mpr q)
      refine px (fun _ => pm_iload_n (pc := 71) d_Wk_pair_71 rfl) ?_
      refine px (fun _ => pm_dload (pc := 72) d_Wk_pair_72 rfl) ?_
      refine px (fun _ => pm_dload (pc := 74) d_Wk_pair_74 rfl) ?_
      refine px (fun _ => k_Wk_pair_76 (kc1 := 0) (ks1 := 0) (kc := 0) (ks := 0) (av := [.int (2), .double (g_ag S a i j), .double (g_ag S b i j)]) (st := [.int (nI j), .int (nI i), .ref (8 + 3 * o9)]) (c_pf2 hl (hne i j hi hj n_c_2)) rfl rfl (Nat.le_of_ble_eq_true rfl)) ?_
      obtain ⟨⟨o3, h3⟩, ⟨e3, H3, F3⟩, en3⟩ := c_putf (l := l) (G := G) (fi := fi) (v := g_pf 2 (g_ag S a i j) (g_ag S b i j)) hl H hW ho (i := i) (j := j) (by omega) (by omega)
      dsimp only at e3 H3 F3
      subst e3
      refine px (fun _ => k_Wk_pair_79 (kc1 := 0) (ks1 := 0) (kc := 0) (ks := 0) (av := [.int (nI i), .int (nI j), .double (g_pf 2 (g_ag S a i j) (g_ag S b i j))]) (st := []) t_o9 (en3) rfl rfl (Nat.le_of_ble_eq_true rfl)) ?_
      refine px (fun _ => pm_iinc (x := nI j) (v := nI (j + 1)) (lv' := [(5, .int (nI (j + 1))), (8, .double (g_ag S b i j)), (6, .double (g_ag S a i j)), (4, .int (nI i)), (0, .int (2)), (1, .ref (8 + 3 * a)), (2, .ref (8 + 3 * b)), (3, .ref (8 + 3 * o9))]) (pc := 82) d_Wk_pair_82 rfl (nI_1 _) (by decide) rfl) ?_
      refine px (fun _ => pm_goto (tgt := 15) (pc := 85) d_Wk_pair_85 (by decide)) ?_
      refine pxd [0, 3, 4, 5, 6, 7] rfl ?_
      exact ih i (j + 1) _ _ H3 (F.tr F3) (iv.step (by omega) hj (by show _ = if gT S a 0 = 1 then FP.i2d (g_pi 2 (FP.d2i (g_ag S a i j)) (FP.d2i (g_ag S b i j))) else g_pf 2 (g_ag S a i j) (g_ag S b i j); rw [if_neg (by assumption)])) hi (by omega) K
    · have n_c_2 : (gT S a 0) = 1 := (nI_eq (a := (gT S a 0)) (b := 1) (by omega) (by omega)).mp c_2
      refine px (fun _ => pm_iload_n (pc := 57) d_Wk_pair_57 rfl) ?_
      refine px (fun _ => pm_dload (pc := 58) d_Wk_pair_58 rfl) ?_
      refine px (fun _ => pm_d2i (pc := 60) d_Wk_pair_60) ?_
      refine px (fun _ => pm_dload (pc := 61) d_Wk_pair_61 rfl) ?_
      refine px (fun _ => pm_d2i (pc := 63) d_Wk_pair_63) ?_
      refine px (fun _ => k_Wk_pair_64 (kc1 := 0) (ks1 := 0) (kc := 0) (ks := 0) (av := [.int (2), .int ((FP.d2i (g_ag S a i j))), .int ((FP.d2i (g_ag S b i j)))]) (st := [.int (nI j), .int (nI i), .ref (8 + 3 * o9)]) (c_pi2 hl) rfl rfl (Nat.le_of_ble_eq_true rfl)) ?_
      refine px (fun _ => pm_i2d (pc := 67) d_Wk_pair_67) ?_
      refine px (fun _ => pm_goto (tgt := 79) (pc := 68) d_Wk_pair_68 (by decide)) ?_
      obtain ⟨⟨o4, h4⟩, ⟨e4, H4, F4⟩, en4⟩ := c_putf (l := l) (G := G) (fi := fi) (v := (FP.i2d (g_pi 2 (FP.d2i (g_ag S a i j)) (FP.d2i (g_ag S b i j))))) hl H hW ho (i := i) (j := j) (by omega) (by omega)
      dsimp only at e4 H4 F4
      subst e4
      refine px (fun _ => k_Wk_pair_79 (kc1 := 0) (ks1 := 0) (kc := 0) (ks := 0) (av := [.int (nI i), .int (nI j), .double ((FP.i2d (g_pi 2 (FP.d2i (g_ag S a i j)) (FP.d2i (g_ag S b i j)))))]) (st := []) t_o9 (en4) rfl rfl (Nat.le_of_ble_eq_true rfl)) ?_
      refine px (fun _ => pm_iinc (x := nI j) (v := nI (j + 1)) (lv' := [(5, .int (nI (j + 1))), (8, .double (g_ag S b i j)), (6, .double (g_ag S a i j)), (4, .int (nI i)), (0, .int (2)), (1, .ref (8 + 3 * a)), (2, .ref (8 + 3 * b)), (3, .ref (8 + 3 * o9))]) (pc := 82) d_Wk_pair_82 rfl (nI_1 _) (by decide) rfl) ?_
      refine px (fun _ => pm_goto (tgt := 15) (pc := 85) d_Wk_pair_85 (by decide)) ?_
      refine pxd [0, 3, 4, 5, 6, 7] rfl ?_
      exact ih i (j + 1) _ _ H4 (F.tr F4) (iv.step (by omega) hj (by show _ = if gT S a 0 = 1 then FP.i2d (g_pi 2 (FP.d2i (g_ag S a i j)) (FP.d2i (g_ag S b i j))) else g_pf 2 (g_ag S a i j) (g_ag S b i j); rw [if_pos (by assumption)])) hi (by omega) K
set_option maxHeartbeats 4000000 in
set_option maxRecDepth 20000 in
theorem lpo_pair2 {l : Launch} {G : pm_G} {fi : Bool} {S : gS} {h0 : pm_H} {a b o9 : Nat} (hl : l.stackTraces = false) (hW : gW S) (ho : o9 < 20) (ha : a < 20) (na : a ≠ o9) (hb : b < 20) (nb : b ≠ o9) (hne : ∀ x y, x < gT S o9 1 → y < gT S o9 2 → ¬ gT S a 0 = 1 → vf_n64 (FP.dmul (g_ag S a x y) (g_ag S b x y))) : ∀ (d i : Nat) (f : Nat → UInt64) (h : pm_H), gH (gsC S o9 f) h → gFr h0 h → g_inv (fun x y => if gT S a 0 = 1 then FP.i2d (g_pi 2 (FP.d2i (g_ag S a x y)) (FP.d2i (g_ag S b x y))) else g_pf 2 (g_ag S a x y) (g_ag S b x y)) (gT S o9 2) f (i) (0) → i + d = gT S o9 1 → pm_Px l G fi fi 0 0 M_Wk_pair 3 [(4, .int (nI i)), (0, .int (2)), (1, .ref (8 + 3 * a)), (2, .ref (8 + 3 * b)), (3, .ref (8 + 3 * o9))] [] h (g_Pw S o9 h0 (fun x y => if gT S a 0 = 1 then FP.i2d (g_pi 2 (FP.d2i (g_ag S a x y)) (FP.d2i (g_ag S b x y))) else g_pf 2 (g_ag S a x y) (g_ag S b x y)) (gT S o9 1) (gT S o9 2) (.inl (none))) := by
  intro d
  induction d with
  | zero =>
    intro i f h H F iv hd9
    have bo := hW.2.2.2.2.1 o9 ho
    have ba := hW.2.2.2.2.1 a ha
    have t_a : h[8 + 3 * a]? = some (pm_Ob 2 [.ref (9 + 3 * a), .int (nI (gT S a 0)), .int (nI (gT S a 1)), .int (nI (gT S a 2))]) := (H.2.2.2.2.2.2.1 a ha).2.1
    have t_b : h[8 + 3 * b]? = some (pm_Ob 2 [.ref (9 + 3 * b), .int (nI (gT S b 0)), .int (nI (gT S b 1)), .int (nI (gT S b 2))]) := (H.2.2.2.2.2.2.1 b hb).2.1
    have t_o9 : h[8 + 3 * o9]? = some (pm_Ob 2 [.ref (9 + 3 * o9), .int (nI (gT S o9 0)), .int (nI (gT S o9 1)), .int (nI (gT S o9 2))]) := (H.2.2.2.2.2.2.1 o9 ho).2.1
    have ei : i = gT S o9 1 := by omega
    refine px (fun _ => pm_iload (pc := 3) d_Wk_pair_3 rfl) ?_
    refine px (fun _ => pm_aload_n (pc := 5) d_Wk_pair_5 rfl) ?_
    refine px (fun _ => pm_getf fl_Wk_53 (pc := 6) d_Wk_pair_6 t_o9 rfl) ?_
    refine pxb (fun _ => pm_icmp_ge (pc := 9) (tgt := 94) d_Wk_pair_9 (by decide)) (fun c_1 => ?_) (fun c_1 => absurd (by rw [ei]; exact (nI_leI (a := gT S o9 1) (b := gT S o9 1) (by omega) (by omega)).mpr (Nat.le_refl _)) c_1)
    exact pxr (pm_vret (pc := 94) d_Wk_pair_94 rfl) ⟨rfl, f, H, F, by rw [ei] at iv; exact iv⟩
  | succ d ih =>
    intro i f h H F iv hd9
    have bo := hW.2.2.2.2.1 o9 ho
    have ba := hW.2.2.2.2.1 a ha
    have t_a : h[8 + 3 * a]? = some (pm_Ob 2 [.ref (9 + 3 * a), .int (nI (gT S a 0)), .int (nI (gT S a 1)), .int (nI (gT S a 2))]) := (H.2.2.2.2.2.2.1 a ha).2.1
    have t_b : h[8 + 3 * b]? = some (pm_Ob 2 [.ref (9 + 3 * b), .int (nI (gT S b 0)), .int (nI (gT S b 1)), .int (nI (gT S b 2))]) := (H.2.2.2.2.2.2.1 b hb).2.1
    have t_o9 : h[8 + 3 * o9]? = some (pm_Ob 2 [.ref (9 + 3 * o9), .int (nI (gT S o9 0)), .int (nI (gT S o9 1)), .int (nI (gT S o9 2))]) := (H.2.2.2.2.2.2.1 o9 ho).2.1
    refine px (fun _ => pm_iload (pc := 3) d_Wk_pair_3 rfl) ?_
    refine px (fun _ => pm_aload_n (pc := 5) d_Wk_pair_5 rfl) ?_
    refine px (fun _ => pm_getf fl_Wk_53 (pc := 6) d_Wk_pair_6 t_o9 rfl) ?_
    refine pxb (fun _ => pm_icmp_ge (pc := 9) (tgt := 94) d_Wk_pair_9 (by decide)) (fun c_1 => absurd c_1 (fun q => absurd ((nI_leI (a := gT S o9 1) (b := i) (by omega) (by omega)).mp q) (by omega))) (fun c_1 => ?_)
    refine px (fun _ => pm_iconst (v := 0) (pc := 12) d_Wk_pair_12 rfl) ?_
    refine px (fun _ => pm_istore (lv' := [(5, .int (0)), (4, .int (nI i)), (0, .int (2)), (1, .ref (8 + 3 * a)), (2, .ref (8 + 3 * b)), (3, .ref (8 + 3 * o9))]) (pc := 13) d_Wk_pair_13 (by decide) rfl) ?_
    refine pxd [0, 1, 2, 3, 4, 5] rfl ?_
    exact lpi_pair2 hl hW ho ha na hb nb hne (gT S o9 2) i 0 f h H F iv (by omega) (by omega) (fun f1 h1 a1 a2 a3 => ih (i + 1) f1 h1 a1 a2 a3 (by omega))
set_option maxHeartbeats 4000000 in
set_option maxRecDepth 20000 in
theorem w_pair2 {l : Launch} {G : pm_G} {fi : Bool} {h : pm_H} {S : gS} {a b o9 : Nat} (hl : l.stackTraces = false) (H : gH S h) (hW : gW S) (ho : o9 < 20) (ha : a < 20) (na : a ≠ o9) (hb : b < 20) (nb : b ≠ o9) (hne : ∀ x y, x < gT S o9 1 → y < gT S o9 2 → ¬ gT S a 0 = 1 → vf_n64 (FP.dmul (g_ag S a x y) (g_ag S b x y))) : pm_Cn l G fi fi 0 0 M_Wk_pair [.int (2), .ref (8 + 3 * a), .ref (8 + 3 * b), .ref (8 + 3 * o9)] h (g_Pw S o9 h (fun x y => if gT S a 0 = 1 then FP.i2d (g_pi 2 (FP.d2i (g_ag S a x y)) (FP.d2i (g_ag S b x y))) else g_pf 2 (g_ag S a x y) (g_ag S b x y)) (gT S o9 1) (gT S o9 2) (.inl (none))) := by
  refine pm_Cn.of hl (by decide) (Nat.le_of_ble_eq_true rfl) ?_
  refine px (fun _ => pm_iconst (v := 0) (pc := 0) d_Wk_pair_0 rfl) ?_
  refine px (fun _ => pm_istore (lv' := [(4, .int (0)), (0, .int (2)), (1, .ref (8 + 3 * a)), (2, .ref (8 + 3 * b)), (3, .ref (8 + 3 * o9))]) (pc := 1) d_Wk_pair_1 (by decide) rfl) ?_
  exact lpo_pair2 hl hW ho ha na hb nb hne (gT S o9 1) 0 (gC S o9) h (by rw [gsC_self]; exact H) (gFr.rf h) g_inv.z (by omega)
set_option maxHeartbeats 4000000 in
set_option maxRecDepth 20000 in
theorem lpi_pair8 {l : Launch} {G : pm_G} {fi : Bool} {S : gS} {h0 : pm_H} {a b o9 : Nat} (hl : l.stackTraces = false) (hW : gW S) (ho : o9 < 20) (ha : a < 20) (na : a ≠ o9) (hb : b < 20) (nb : b ≠ o9) : ∀ (d i j : Nat) (f : Nat → UInt64) (h : pm_H), gH (gsC S o9 f) h → gFr h0 h → g_inv (fun x y => if gT S a 0 = 1 then FP.i2d (g_pi 8 (FP.d2i (g_ag S a x y)) (FP.d2i (g_ag S b x y))) else g_pf 8 (g_ag S a x y) (g_ag S b x y)) (gT S o9 2) f (i) (j) → i < gT S o9 1 → j + d = gT S o9 2 → (∀ f1 h1, gH (gsC S o9 f1) h1 → gFr h0 h1 → g_inv (fun x y => if gT S a 0 = 1 then FP.i2d (g_pi 8 (FP.d2i (g_ag S a x y)) (FP.d2i (g_ag S b x y))) else g_pf 8 (g_ag S a x y) (g_ag S b x y)) (gT S o9 2) f1 (i + 1) (0) → pm_Px l G fi fi 0 0 M_Wk_pair 3 [(4, .int (nI (i + 1))), (0, .int (8)), (1, .ref (8 + 3 * a)), (2, .ref (8 + 3 * b)), (3, .ref (8 + 3 * o9))] [] h1 (g_Pw S o9 h0 (fun x y => if gT S a 0 = 1 then FP.i2d (g_pi 8 (FP.d2i (g_ag S a x y)) (FP.d2i (g_ag S b x y))) else g_pf 8 (g_ag S a x y) (g_ag S b x y)) (gT S o9 1) (gT S o9 2) (.inl (none)))) → pm_Px l G fi fi 0 0 M_Wk_pair 15 [(5, .int (nI j)), (4, .int (nI i)), (0, .int (8)), (1, .ref (8 + 3 * a)), (2, .ref (8 + 3 * b)), (3, .ref (8 + 3 * o9))] [] h (g_Pw S o9 h0 (fun x y => if gT S a 0 = 1 then FP.i2d (g_pi 8 (FP.d2i (g_ag S a x y)) (FP.d2i (g_ag S b x y))) else g_pf 8 (g_ag S a x y) (g_ag S b x y)) (gT S o9 1) (gT S o9 2) (.inl (none))) := by
  intro d
  induction d with
  | zero =>
    intro i j f h H F iv hi hd9 K
    have bo := hW.2.2.2.2.1 o9 ho
    have ba := hW.2.2.2.2.1 a ha
    have t_a : h[8 + 3 * a]? = some (pm_Ob 2 [.ref (9 + 3 * a), .int (nI (gT S a 0)), .int (nI (gT S a 1)), .int (nI (gT S a 2))]) := (H.2.2.2.2.2.2.1 a ha).2.1
    have t_b : h[8 + 3 * b]? = some (pm_Ob 2 [.ref (9 + 3 * b), .int (nI (gT S b 0)), .int (nI (gT S b 1)), .int (nI (gT S b 2))]) := (H.2.2.2.2.2.2.1 b hb).2.1
    have t_o9 : h[8 + 3 * o9]? = some (pm_Ob 2 [.ref (9 + 3 * o9), .int (nI (gT S o9 0)), .int (nI (gT S o9 1)), .int (nI (gT S o9 2))]) := (H.2.2.2.2.2.2.1 o9 ho).2.1
    have ej : j = gT S o9 2 := by omega
    refine px (fun _ => pm_iload (pc := 15) d_Wk_pair_15 rfl) ?_
    refine px (fun _ => pm_aload_n (pc := 17) d_Wk_pair_17 rfl) ?_
    refine px (fun _ => pm_getf fl_Wk_58 (pc := 18) d_Wk_pair_18 t_o9 rfl) ?_
    refine pxb (fun _ => pm_icmp_ge (pc := 21) (tgt := 88) d_Wk_pair_21 (by decide)) (fun c_1 => ?_) (fun c_1 => absurd (by rw [ej]; exact (nI_leI (a := gT S o9 2) (b := gT S o9 2) (by omega) (by omega)).mpr (Nat.le_refl _)) c_1)
    refine px (fun _ => pm_iinc (x := nI i) (v := nI (i + 1)) (lv' := [(4, .int (nI (i + 1))), (5, .int (nI j)), (0, .int (8)), (1, .ref (8 + 3 * a)), (2, .ref (8 + 3 * b)), (3, .ref (8 + 3 * o9))]) (pc := 88) d_Wk_pair_88 rfl (nI_1 _) (by decide) rfl) ?_
    refine px (fun _ => pm_goto (tgt := 3) (pc := 91) d_Wk_pair_91 (by decide)) ?_
    refine pxd [0, 2, 3, 4, 5] rfl ?_
    exact K f h H F (by rw [ej] at iv; exact iv.row)
  | succ d ih =>
    intro i j f h H F iv hi hd9 K
    have bo := hW.2.2.2.2.1 o9 ho
    have ba := hW.2.2.2.2.1 a ha
    have t_a : h[8 + 3 * a]? = some (pm_Ob 2 [.ref (9 + 3 * a), .int (nI (gT S a 0)), .int (nI (gT S a 1)), .int (nI (gT S a 2))]) := (H.2.2.2.2.2.2.1 a ha).2.1
    have t_b : h[8 + 3 * b]? = some (pm_Ob 2 [.ref (9 + 3 * b), .int (nI (gT S b 0)), .int (nI (gT S b 1)), .int (nI (gT S b 2))]) := (H.2.2.2.2.2.2.1 b hb).2.1
    have t_o9 : h[8 + 3 * o9]? = some (pm_Ob 2 [.ref (9 + 3 * o9), .int (nI (gT S o9 0)), .int (nI (gT S o9 1)), .int (nI (gT S o9 2))]) := (H.2.2.2.2.2.2.1 o9 ho).2.1
    have hj : j < gT S o9 2 := by omega
    have hi4 : i < 4 := by omega
    have hj4 : j < 4 := by omega
    refine px (fun _ => pm_iload (pc := 15) d_Wk_pair_15 rfl) ?_
    refine px (fun _ => pm_aload_n (pc := 17) d_Wk_pair_17 rfl) ?_
    refine px (fun _ => pm_getf fl_Wk_58 (pc := 18) d_Wk_pair_18 t_o9 rfl) ?_
    refine pxb (fun _ => pm_icmp_ge (pc := 21) (tgt := 88) d_Wk_pair_21 (by decide)) (fun c_1 => absurd c_1 (fun q => absurd ((nI_leI (a := gT S o9 2) (b := j) (by omega) (by omega)).mp q) (by omega))) (fun c_1 => ?_)
    refine px (fun _ => pm_aload_n (pc := 24) d_Wk_pair_24 rfl) ?_
    refine px (fun _ => pm_iload (pc := 25) d_Wk_pair_25 rfl) ?_
    refine px (fun _ => pm_iload (pc := 27) d_Wk_pair_27 rfl) ?_
    refine px (fun _ => k_Wk_pair_29 (kc1 := 0) (ks1 := 0) (kc := 0) (ks := 0) (av := [.int (nI i), .int (nI j)]) (st := []) t_a (c_ag (i := i) (j := j) hl H hW ha na (by omega) (by omega)) rfl rfl (Nat.le_of_ble_eq_true rfl)) ?_
    refine px (fun _ => pm_dstore (lv' := [(6, .double (g_ag S a i j)), (5, .int (nI j)), (4, .int (nI i)), (0, .int (8)), (1, .ref (8 + 3 * a)), (2, .ref (8 + 3 * b)), (3, .ref (8 + 3 * o9))]) (pc := 32) d_Wk_pair_32 (by decide) rfl) ?_
    refine px (fun _ => pm_aload_n (pc := 34) d_Wk_pair_34 rfl) ?_
    refine px (fun _ => pm_iload (pc := 35) d_Wk_pair_35 rfl) ?_
    refine px (fun _ => pm_iload (pc := 37) d_Wk_pair_37 rfl) ?_
    refine px (fun _ => k_Wk_pair_39 (kc1 := 0) (ks1 := 0) (kc := 0) (ks := 0) (av := [.int (nI i), .int (nI j)]) (st := []) t_b (c_ag (i := i) (j := j) hl H hW hb nb (by omega) (by omega)) rfl rfl (Nat.le_of_ble_eq_true rfl)) ?_
    refine px (fun _ => pm_dstore (lv' := [(8, .double (g_ag S b i j)), (6, .double (g_ag S a i j)), (5, .int (nI j)), (4, .int (nI i)), (0, .int (8)), (1, .ref (8 + 3 * a)), (2, .ref (8 + 3 * b)), (3, .ref (8 + 3 * o9))]) (pc := 42) d_Wk_pair_42 (by decide) rfl) ?_
    refine px (fun _ => pm_aload_n (pc := 44) d_Wk_pair_44 rfl) ?_
    refine px (fun _ => pm_iload (pc := 45) d_Wk_pair_45 rfl) ?_
    refine px (fun _ => pm_iload (pc := 47) d_Wk_pair_47 rfl) ?_
    refine px (fun _ => pm_aload_n (pc := 49) d_Wk_pair_49 rfl) ?_
    refine px (fun _ => pm_getf fl_Wk_84 (pc := 50) d_Wk_pair_50 t_a rfl) ?_
    refine px (fun _ => pm_iconst (v := 1) (pc := 53) d_Wk_pair_53 rfl) ?_
    refine pxn (fun _ => pm_icmp_ne (pc := 54) (tgt := 71) d_Wk_pair_54 (by decide)) (fun c_2 => ?_) (fun c_2 => ?_)
    · have n_c_2 : ¬ ((gT S a 0) = 1) := fun q => c_2 ((nI_eq (a := (gT S a 0)) (b := 1) (by omega) (by omega)).mpr q)
      refine px (fun _ => pm_iload_n (pc := 71) d_Wk_pair_71 rfl) ?_
      refine px (fun _ => pm_dload (pc := 72) d_Wk_pair_72 rfl) ?_
      refine px (fun _ => pm_dload (pc := 74) d_Wk_pair_74 rfl) ?_
      refine px (fun _ => k_Wk_pair_76 (kc1 := 0) (ks1 := 0) (kc := 0) (ks := 0) (av := [.int (8), .double (g_ag S a i j), .double (g_ag S b i j)]) (st := [.int (nI j), .int (nI i), .ref (8 + 3 * o9)]) (c_pf8 hl) rfl rfl (Nat.le_of_ble_eq_true rfl)) ?_
      obtain ⟨⟨o3, h3⟩, ⟨e3, H3, F3⟩, en3⟩ := c_putf (l := l) (G := G) (fi := fi) (v := g_pf 8 (g_ag S a i j) (g_ag S b i j)) hl H hW ho (i := i) (j := j) (by omega) (by omega)
      dsimp only at e3 H3 F3
      subst e3
      refine px (fun _ => k_Wk_pair_79 (kc1 := 0) (ks1 := 0) (kc := 0) (ks := 0) (av := [.int (nI i), .int (nI j), .double (g_pf 8 (g_ag S a i j) (g_ag S b i j))]) (st := []) t_o9 (en3) rfl rfl (Nat.le_of_ble_eq_true rfl)) ?_
      refine px (fun _ => pm_iinc (x := nI j) (v := nI (j + 1)) (lv' := [(5, .int (nI (j + 1))), (8, .double (g_ag S b i j)), (6, .double (g_ag S a i j)), (4, .int (nI i)), (0, .int (8)), (1, .ref (8 + 3 * a)), (2, .ref (8 + 3 * b)), (3, .ref (8 + 3 * o9))]) (pc := 82) d_Wk_pair_82 rfl (nI_1 _) (by decide) rfl) ?_
      refine px (fun _ => pm_goto (tgt := 15) (pc := 85) d_Wk_pair_85 (by decide)) ?_
      refine pxd [0, 3, 4, 5, 6, 7] rfl ?_
      exact ih i (j + 1) _ _ H3 (F.tr F3) (iv.step (by omega) hj (by show _ = if gT S a 0 = 1 then FP.i2d (g_pi 8 (FP.d2i (g_ag S a i j)) (FP.d2i (g_ag S b i j))) else g_pf 8 (g_ag S a i j) (g_ag S b i j); rw [if_neg (by assumption)])) hi (by omega) K
    · have n_c_2 : (gT S a 0) = 1 := (nI_eq (a := (gT S a 0)) (b := 1) (by omega) (by omega)).mp c_2
      refine px (fun _ => pm_iload_n (pc := 57) d_Wk_pair_57 rfl) ?_
      refine px (fun _ => pm_dload (pc := 58) d_Wk_pair_58 rfl) ?_
      refine px (fun _ => pm_d2i (pc := 60) d_Wk_pair_60) ?_
      refine px (fun _ => pm_dload (pc := 61) d_Wk_pair_61 rfl) ?_
      refine px (fun _ => pm_d2i (pc := 63) d_Wk_pair_63) ?_
      refine px (fun _ => k_Wk_pair_64 (kc1 := 0) (ks1 := 0) (kc := 0) (ks := 0) (av := [.int (8), .int ((FP.d2i (g_ag S a i j))), .int ((FP.d2i (g_ag S b i j)))]) (st := [.int (nI j), .int (nI i), .ref (8 + 3 * o9)]) (c_pi8 hl) rfl rfl (Nat.le_of_ble_eq_true rfl)) ?_
      refine px (fun _ => pm_i2d (pc := 67) d_Wk_pair_67) ?_
      refine px (fun _ => pm_goto (tgt := 79) (pc := 68) d_Wk_pair_68 (by decide)) ?_
      obtain ⟨⟨o4, h4⟩, ⟨e4, H4, F4⟩, en4⟩ := c_putf (l := l) (G := G) (fi := fi) (v := (FP.i2d (g_pi 8 (FP.d2i (g_ag S a i j)) (FP.d2i (g_ag S b i j))))) hl H hW ho (i := i) (j := j) (by omega) (by omega)
      dsimp only at e4 H4 F4
      subst e4
      refine px (fun _ => k_Wk_pair_79 (kc1 := 0) (ks1 := 0) (kc := 0) (ks := 0) (av := [.int (nI i), .int (nI j), .double ((FP.i2d (g_pi 8 (FP.d2i (g_ag S a i j)) (FP.d2i (g_ag S b i j)))))]) (st := []) t_o9 (en4) rfl rfl (Nat.le_of_ble_eq_true rfl)) ?_
      refine px (fun _ => pm_iinc (x := nI j) (v := nI (j + 1)) (lv' := [(5, .int (nI (j + 1))), (8, .double (g_ag S b i j)), (6, .double (g_ag S a i j)), (4, .int (nI i)), (0, .int (8)), (1, .ref (8 + 3 * a)), (2, .ref (8 + 3 * b)), (3, .ref (8 + 3 * o9))]) (pc := 82) d_Wk_pair_82 rfl (nI_1 _) (by decide) rfl) ?_
      refine px (fun _ => pm_goto (tgt := 15) (pc := 85) d_Wk_pair_85 (by decide)) ?_
      refine pxd [0, 3, 4, 5, 6, 7] rfl ?_
      exact ih i (j + 1) _ _ H4 (F.tr F4) (iv.step (by omega) hj (by show _ = if gT S a 0 = 1 then FP.i2d (g_pi 8 (FP.d2i (g_ag S a i j)) (FP.d2i (g_ag S b i j))) else g_pf 8 (g_ag S a i j) (g_ag S b i j); rw [if_pos (by assumption)])) hi (by omega) K
set_option maxHeartbeats 4000000 in
set_option maxRecDepth 20000 in
theorem lpo_pair8 {l : Launch} {G : pm_G} {fi : Bool} {S : gS} {h0 : pm_H} {a b o9 : Nat} (hl : l.stackTraces = false) (hW : gW S) (ho : o9 < 20) (ha : a < 20) (na : a ≠ o9) (hb : b < 20) (nb : b ≠ o9) : ∀ (d i : Nat) (f : Nat → UInt64) (h : pm_H), gH (gsC S o9 f) h → gFr h0 h → g_inv (fun x y => if gT S a 0 = 1 then FP.i2d (g_pi 8 (FP.d2i (g_ag S a x y)) (FP.d2i (g_ag S b x y))) else g_pf 8 (g_ag S a x y) (g_ag S b x y)) (gT S o9 2) f (i) (0) → i + d = gT S o9 1 → pm_Px l G fi fi 0 0 M_Wk_pair 3 [(4, .int (nI i)), (0, .int (8)), (1, .ref (8 + 3 * a)), (2, .ref (8 + 3 * b)), (3, .ref (8 + 3 * o9))] [] h (g_Pw S o9 h0 (fun x y => if gT S a 0 = 1 then FP.i2d (g_pi 8 (FP.d2i (g_ag S a x y)) (FP.d2i (g_ag S b x y))) else g_pf 8 (g_ag S a x y) (g_ag S b x y)) (gT S o9 1) (gT S o9 2) (.inl (none))) := by
  intro d
  induction d with
  | zero =>
    intro i f h H F iv hd9
    have bo := hW.2.2.2.2.1 o9 ho
    have ba := hW.2.2.2.2.1 a ha
    have t_a : h[8 + 3 * a]? = some (pm_Ob 2 [.ref (9 + 3 * a), .int (nI (gT S a 0)), .int (nI (gT S a 1)), .int (nI (gT S a 2))]) := (H.2.2.2.2.2.2.1 a ha).2.1
    have t_b : h[8 + 3 * b]? = some (pm_Ob 2 [.ref (9 + 3 * b), .int (nI (gT S b 0)), .int (nI (gT S b 1)), .int (nI (gT S b 2))]) := (H.2.2.2.2.2.2.1 b hb).2.1
    have t_o9 : h[8 + 3 * o9]? = some (pm_Ob 2 [.ref (9 + 3 * o9), .int (nI (gT S o9 0)), .int (nI (gT S o9 1)), .int (nI (gT S o9 2))]) := (H.2.2.2.2.2.2.1 o9 ho).2.1
    have ei : i = gT S o9 1 := by omega
    refine px (fun _ => pm_iload (pc := 3) d_Wk_pair_3 rfl) ?_
    refine px (fun _ => pm_aload_n (pc := 5) d_Wk_pair_5 rfl) ?_
    refine px (fun _ => pm_getf fl_Wk_53 (pc := 6) d_Wk_pair_6 t_o9 rfl) ?_
    refine pxb (fun _ => pm_icmp_ge (pc := 9) (tgt := 94) d_Wk_pair_9 (by decide)) (fun c_1 => ?_) (fun c_1 => absurd (by rw [ei]; exact (nI_leI (a := gT S o9 1) (b := gT S o9 1) (by omega) (by omega)).mpr (Nat.le_refl _)) c_1)
    exact pxr (pm_vret (pc := 94) d_Wk_pair_94 rfl) ⟨rfl, f, H, F, by rw [ei] at iv; exact iv⟩
  | succ d ih =>
    intro i f h H F iv hd9
    have bo := hW.2.2.2.2.1 o9 ho
    have ba := hW.2.2.2.2.1 a ha
    have t_a : h[8 + 3 * a]? = some (pm_Ob 2 [.ref (9 + 3 * a), .int (nI (gT S a 0)), .int (nI (gT S a 1)), .int (nI (gT S a 2))]) := (H.2.2.2.2.2.2.1 a ha).2.1
    have t_b : h[8 + 3 * b]? = some (pm_Ob 2 [.ref (9 + 3 * b), .int (nI (gT S b 0)), .int (nI (gT S b 1)), .int (nI (gT S b 2))]) := (H.2.2.2.2.2.2.1 b hb).2.1
    have t_o9 : h[8 + 3 * o9]? = some (pm_Ob 2 [.ref (9 + 3 * o9), .int (nI (gT S o9 0)), .int (nI (gT S o9 1)), .int (nI (gT S o9 2))]) := (H.2.2.2.2.2.2.1 o9 ho).2.1
    refine px (fun _ => pm_iload (pc := 3) d_Wk_pair_3 rfl) ?_
    refine px (fun _ => pm_aload_n (pc := 5) d_Wk_pair_5 rfl) ?_
    refine px (fun _ => pm_getf fl_Wk_53 (pc := 6) d_Wk_pair_6 t_o9 rfl) ?_
    refine pxb (fun _ => pm_icmp_ge (pc := 9) (tgt := 94) d_Wk_pair_9 (by decide)) (fun c_1 => absurd c_1 (fun q => absurd ((nI_leI (a := gT S o9 1) (b := i) (by omega) (by omega)).mp q) (by omega))) (fun c_1 => ?_)
    refine px (fun _ => pm_iconst (v := 0) (pc := 12) d_Wk_pair_12 rfl) ?_
    refine px (fun _ => pm_istore (lv' := [(5, .int (0)), (4, .int (nI i)), (0, .int (8)), (1, .ref (8 + 3 * a)), (2, .ref (8 + 3 * b)), (3, .ref (8 + 3 * o9))]) (pc := 13) d_Wk_pair_13 (by decide) rfl) ?_
    refine pxd [0, 1, 2, 3, 4, 5] rfl ?_
    exact lpi_pair8 hl hW ho ha na hb nb (gT S o9 2) i 0 f h H F iv (by omega) (by omega) (fun f1 h1 a1 a2 a3 => ih (i + 1) f1 h1 a1 a2 a3 (by omega))
set_option maxHeartbeats 4000000 in
set_option maxRecDepth 20000 in
theorem w_pair8 {l : Launch} {G : pm_G} {fi : Bool} {h : pm_H} {S : gS} {a b o9 : Nat} (hl : l.stackTraces = false) (H : gH S h) (hW : gW S) (ho : o9 < 20) (ha : a < 20) (na : a ≠ o9) (hb : b < 20) (nb : b ≠ o9) : pm_Cn l G fi fi 0 0 M_Wk_pair [.int (8), .ref (8 + 3 * a), .ref (8 + 3 * b), .ref (8 + 3 * o9)] h (g_Pw S o9 h (fun x y => if gT S a 0 = 1 then FP.i2d (g_pi 8 (FP.d2i (g_ag S a x y)) (FP.d2i (g_ag S b x y))) else g_pf 8 (g_ag S a x y) (g_ag S b x y)) (gT S o9 1) (gT S o9 2) (.inl (none))) := by
  refine pm_Cn.of hl (by decide) (Nat.le_of_ble_eq_true rfl) ?_
  refine px (fun _ => pm_iconst (v := 0) (pc := 0) d_Wk_pair_0 rfl) ?_
  refine px (fun _ => pm_istore (lv' := [(4, .int (0)), (0, .int (8)), (1, .ref (8 + 3 * a)), (2, .ref (8 + 3 * b)), (3, .ref (8 + 3 * o9))]) (pc := 1) d_Wk_pair_1 (by decide) rfl) ?_
  exact lpo_pair8 hl hW ho ha na hb nb (gT S o9 1) 0 (gC S o9) h (by rw [gsC_self]; exact H) (gFr.rf h) g_inv.z (by omega)
