/-! ===== the class: copy, copyRow, sum, greatest ===== -/
def g_cinv (S : gS) (a : Nat) (f0 : Nat → UInt64) (fr fc : Nat) (f : Nat → UInt64) (i j : Nat) : Prop := ∀ x y, y < 4 → f (x * 4 + y) = if fr ≤ x ∧ fc ≤ y ∧ y < fc + gT S a 2 ∧ (x < fr + i ∨ x = fr + i ∧ y < fc + j) then gC S a ((x - fr) * 4 + (y - fc)) else f0 (x * 4 + y)
theorem g_cinv.z {S : gS} {a : Nat} {f0 : Nat → UInt64} {fr fc : Nat} : g_cinv S a f0 fr fc f0 0 0 := fun x y _ => by rw [if_neg (by omega)]
theorem g_cinv.row {S : gS} {a : Nat} {f0 f : Nat → UInt64} {fr fc i : Nat} (h : g_cinv S a f0 fr fc f i (gT S a 2)) : g_cinv S a f0 fr fc f (i + 1) 0 := by
  intro x y hy
  rw [h x y hy]
  by_cases q : fr ≤ x ∧ fc ≤ y ∧ y < fc + gT S a 2 ∧ (x < fr + i ∨ x = fr + i ∧ y < fc + gT S a 2)
  · rw [if_pos q, if_pos (by omega)]
  · rw [if_neg q, if_neg (by omega)]
theorem g_cinv.step {S : gS} {a : Nat} {f0 f : Nat → UInt64} {fr fc i j : Nat} (h : g_cinv S a f0 fr fc f i j) (hc : fc + gT S a 2 ≤ 4) (hj : j < gT S a 2) : g_cinv S a f0 fr fc (va_up f ((fr + i) * 4 + (fc + j)) (gC S a (i * 4 + j))) i (j + 1) := by
  intro x y hy
  simp only [va_up]
  by_cases e : x * 4 + y = (fr + i) * 4 + (fc + j)
  · rw [if_pos e, if_pos (by omega), show x - fr = i by omega, show y - fc = j by omega]
  · rw [if_neg e, h x y hy]
    by_cases q : fr ≤ x ∧ fc ≤ y ∧ y < fc + gT S a 2 ∧ (x < fr + i ∨ x = fr + i ∧ y < fc + j)
    · rw [if_pos q, if_pos (by omega)]
    · rw [if_neg q, if_neg (by omega)]
set_option maxHeartbeats 4000000 in
set_option maxRecDepth 20000 in
theorem li_copy {l : Launch} {G : pm_G} {fi : Bool} {S : gS} {h0 : pm_H} {Post : pm_O × pm_H → Prop} {a o9 fr fc : Nat} {f0 : Nat → UInt64} (hl : l.stackTraces = false) (hW : gW S) (ho : o9 < 20) (ha : a < 20) (na : a ≠ o9) (hr : fr + gT S a 1 ≤ 4) (hc : fc + gT S a 2 ≤ 4) : ∀ (d i j : Nat) (f : Nat → UInt64) (h : pm_H), gH (gsC S o9 f) h → gFr h0 h → g_cinv S a f0 fr fc f (i) (j) → i < gT S a 1 → j + d = gT S a 2 → (∀ f1 h1, gH (gsC S o9 f1) h1 → gFr h0 h1 → g_cinv S a f0 fr fc f1 ((i + 1)) (0) → pm_Px l G fi fi 0 0 M_Wk_copy 3 [(4, .int (nI (i + 1))), (0, .ref (8 + 3 * a)), (1, .ref (8 + 3 * o9)), (2, .int (nI fr)), (3, .int (nI fc))] [] h1 Post) → pm_Px l G fi fi 0 0 M_Wk_copy 15 [(5, .int (nI j)), (4, .int (nI i)), (0, .ref (8 + 3 * a)), (1, .ref (8 + 3 * o9)), (2, .int (nI fr)), (3, .int (nI fc))] [] h Post := by
  intro d
  induction d with
  | zero =>
    intro i j f h H F iv hi hd9 K
    have bo := hW.2.2.2.2.1 o9 ho
    have ba := hW.2.2.2.2.1 a ha
    have t_a : h[8 + 3 * a]? = some (pm_Ob 2 [.ref (9 + 3 * a), .int (nI (gT S a 0)), .int (nI (gT S a 1)), .int (nI (gT S a 2))]) := (H.2.2.2.2.2.2.1 a ha).2.1
    have t_o9 : h[8 + 3 * o9]? = some (pm_Ob 2 [.ref (9 + 3 * o9), .int (nI (gT S o9 0)), .int (nI (gT S o9 1)), .int (nI (gT S o9 2))]) := (H.2.2.2.2.2.2.1 o9 ho).2.1
    have ej : j = gT S a 2 := by omega
    refine px (fun _ => pm_iload (pc := 15) d_Wk_copy_15 rfl) ?_
    refine px (fun _ => pm_aload_n (pc := 17) d_Wk_copy_17 rfl) ?_
    refine px (fun _ => pm_getf fl_Wk_58 (pc := 18) d_Wk_copy_18 t_a rfl) ?_
    refine pxb (fun _ => pm_icmp_ge (pc := 21) (tgt := 50) d_Wk_copy_21 (by decide)) (fun c_1 => ?_) (fun c_1 => absurd (by rw [ej]; exact (nI_leI (a := gT S a 2) (b := gT S a 2) (by omega) (by omega)).mpr (Nat.le_refl _)) c_1)
    refine px (fun _ => pm_iinc (x := nI i) (v := nI (i + 1)) (lv' := [(4, .int (nI (i + 1))), (5, .int (nI j)), (0, .ref (8 + 3 * a)), (1, .ref (8 + 3 * o9)), (2, .int (nI fr)), (3, .int (nI fc))]) (pc := 50) d_Wk_copy_50 rfl (nI_1 _) (by decide) rfl) ?_
    refine px (fun _ => pm_goto (tgt := 3) (pc := 53) d_Wk_copy_53 (by decide)) ?_
    refine pxd [0, 2, 3, 4, 5] rfl ?_
    exact K f h H F (by rw [ej] at iv; exact iv.row)
  | succ d ih =>
    intro i j f h H F iv hi hd9 K
    have bo := hW.2.2.2.2.1 o9 ho
    have ba := hW.2.2.2.2.1 a ha
    have t_a : h[8 + 3 * a]? = some (pm_Ob 2 [.ref (9 + 3 * a), .int (nI (gT S a 0)), .int (nI (gT S a 1)), .int (nI (gT S a 2))]) := (H.2.2.2.2.2.2.1 a ha).2.1
    have t_o9 : h[8 + 3 * o9]? = some (pm_Ob 2 [.ref (9 + 3 * o9), .int (nI (gT S o9 0)), .int (nI (gT S o9 1)), .int (nI (gT S o9 2))]) := (H.2.2.2.2.2.2.1 o9 ho).2.1
    have hj : j < gT S a 2 := by omega
    refine px (fun _ => pm_iload (pc := 15) d_Wk_copy_15 rfl) ?_
    refine px (fun _ => pm_aload_n (pc := 17) d_Wk_copy_17 rfl) ?_
    refine px (fun _ => pm_getf fl_Wk_58 (pc := 18) d_Wk_copy_18 t_a rfl) ?_
    refine pxb (fun _ => pm_icmp_ge (pc := 21) (tgt := 50) d_Wk_copy_21 (by decide)) (fun c_1 => absurd c_1 (fun q => absurd ((nI_leI (a := gT S a 2) (b := j) (by omega) (by omega)).mp q) (by omega))) (fun c_1 => ?_)
    refine px (fun _ => pm_aload_n (pc := 24) d_Wk_copy_24 rfl) ?_
    refine px (fun _ => pm_iload_n (pc := 25) d_Wk_copy_25 rfl) ?_
    refine px (fun _ => pm_iload (pc := 26) d_Wk_copy_26 rfl) ?_
    refine px (fun _ => pm_iaddN (a := fr) (b := i) (pc := 28) d_Wk_copy_28) ?_
    refine px (fun _ => pm_iload_n (pc := 29) d_Wk_copy_29 rfl) ?_
    refine px (fun _ => pm_iload (pc := 30) d_Wk_copy_30 rfl) ?_
    refine px (fun _ => pm_iaddN (a := fc) (b := j) (pc := 32) d_Wk_copy_32) ?_
    refine px (fun _ => pm_aload_n (pc := 33) d_Wk_copy_33 rfl) ?_
    refine px (fun _ => pm_iload (pc := 34) d_Wk_copy_34 rfl) ?_
    refine px (fun _ => pm_iload (pc := 36) d_Wk_copy_36 rfl) ?_
    refine px (fun _ => k_Wk_copy_38 (kc1 := 0) (ks1 := 0) (kc := 0) (ks := 0) (av := [.int (nI i), .int (nI j)]) (st := [.int (nI (fc + j)), .int (nI (fr + i)), .ref (8 + 3 * o9)]) t_a (c_atf (i := i) (j := j) hl H ha na (by omega) (by omega)) rfl rfl (Nat.le_of_ble_eq_true rfl)) ?_
    obtain ⟨⟨o2, h2⟩, ⟨e2, H2, F2⟩, en2⟩ := c_putf (l := l) (G := G) (fi := fi) (v := gC S a (i * 4 + j)) hl H hW ho (i := (fr + i)) (j := (fc + j)) (by omega) (by omega)
    dsimp only at e2 H2 F2
    subst e2
    refine px (fun _ => k_Wk_copy_41 (kc1 := 0) (ks1 := 0) (kc := 0) (ks := 0) (av := [.int (nI (fr + i)), .int (nI (fc + j)), .double (gC S a (i * 4 + j))]) (st := []) t_o9 (en2) rfl rfl (Nat.le_of_ble_eq_true rfl)) ?_
    refine px (fun _ => pm_iinc (x := nI j) (v := nI (j + 1)) (lv' := [(5, .int (nI (j + 1))), (4, .int (nI i)), (0, .ref (8 + 3 * a)), (1, .ref (8 + 3 * o9)), (2, .int (nI fr)), (3, .int (nI fc))]) (pc := 44) d_Wk_copy_44 rfl (nI_1 _) (by decide) rfl) ?_
    refine px (fun _ => pm_goto (tgt := 15) (pc := 47) d_Wk_copy_47 (by decide)) ?_
    refine pxd [0, 1, 2, 3, 4, 5] rfl ?_
    exact ih i (j + 1) _ _ H2 (F.tr (F2)) (iv.step hc hj) hi (by omega) K
set_option maxHeartbeats 4000000 in
set_option maxRecDepth 20000 in
theorem lo_copy {l : Launch} {G : pm_G} {fi : Bool} {S : gS} {h0 : pm_H} {Post : pm_O × pm_H → Prop} {a o9 fr fc : Nat} {f0 : Nat → UInt64} (hl : l.stackTraces = false) (hW : gW S) (ho : o9 < 20) (ha : a < 20) (na : a ≠ o9) (hr : fr + gT S a 1 ≤ 4) (hc : fc + gT S a 2 ≤ 4) : ∀ (d i : Nat) (f : Nat → UInt64) (h : pm_H), gH (gsC S o9 f) h → gFr h0 h → g_cinv S a f0 fr fc f (i) (0) → i + d = gT S a 1 → (∀ f1 h1, gH (gsC S o9 f1) h1 → gFr h0 h1 → g_cinv S a f0 fr fc f1 (gT S a 1) (0) → pm_Px l G fi fi 0 0 M_Wk_copy 56 [(0, .ref (8 + 3 * a)), (1, .ref (8 + 3 * o9)), (2, .int (nI fr)), (3, .int (nI fc))] [] h1 Post) → pm_Px l G fi fi 0 0 M_Wk_copy 3 [(4, .int (nI i)), (0, .ref (8 + 3 * a)), (1, .ref (8 + 3 * o9)), (2, .int (nI fr)), (3, .int (nI fc))] [] h Post := by
  intro d
  induction d with
  | zero =>
    intro i f h H F iv hd9 K
    have bo := hW.2.2.2.2.1 o9 ho
    have ba := hW.2.2.2.2.1 a ha
    have t_a : h[8 + 3 * a]? = some (pm_Ob 2 [.ref (9 + 3 * a), .int (nI (gT S a 0)), .int (nI (gT S a 1)), .int (nI (gT S a 2))]) := (H.2.2.2.2.2.2.1 a ha).2.1
    have t_o9 : h[8 + 3 * o9]? = some (pm_Ob 2 [.ref (9 + 3 * o9), .int (nI (gT S o9 0)), .int (nI (gT S o9 1)), .int (nI (gT S o9 2))]) := (H.2.2.2.2.2.2.1 o9 ho).2.1
    have ej : i = gT S a 1 := by omega
    refine px (fun _ => pm_iload (pc := 3) d_Wk_copy_3 rfl) ?_
    refine px (fun _ => pm_aload_n (pc := 5) d_Wk_copy_5 rfl) ?_
    refine px (fun _ => pm_getf fl_Wk_53 (pc := 6) d_Wk_copy_6 t_a rfl) ?_
    refine pxb (fun _ => pm_icmp_ge (pc := 9) (tgt := 56) d_Wk_copy_9 (by decide)) (fun c_1 => ?_) (fun c_1 => absurd (by rw [ej]; exact (nI_leI (a := gT S a 1) (b := gT S a 1) (by omega) (by omega)).mpr (Nat.le_refl _)) c_1)
    refine pxd [1, 2, 3, 4] rfl ?_
    exact K f h H F (by rw [ej] at iv; exact iv)
  | succ d ih =>
    intro i f h H F iv hd9 K
    have bo := hW.2.2.2.2.1 o9 ho
    have ba := hW.2.2.2.2.1 a ha
    have t_a : h[8 + 3 * a]? = some (pm_Ob 2 [.ref (9 + 3 * a), .int (nI (gT S a 0)), .int (nI (gT S a 1)), .int (nI (gT S a 2))]) := (H.2.2.2.2.2.2.1 a ha).2.1
    have t_o9 : h[8 + 3 * o9]? = some (pm_Ob 2 [.ref (9 + 3 * o9), .int (nI (gT S o9 0)), .int (nI (gT S o9 1)), .int (nI (gT S o9 2))]) := (H.2.2.2.2.2.2.1 o9 ho).2.1
    refine px (fun _ => pm_iload (pc := 3) d_Wk_copy_3 rfl) ?_
    refine px (fun _ => pm_aload_n (pc := 5) d_Wk_copy_5 rfl) ?_
    refine px (fun _ => pm_getf fl_Wk_53 (pc := 6) d_Wk_copy_6 t_a rfl) ?_
    refine pxb (fun _ => pm_icmp_ge (pc := 9) (tgt := 56) d_Wk_copy_9 (by decide)) (fun c_1 => absurd c_1 (fun q => absurd ((nI_leI (a := gT S a 1) (b := i) (by omega) (by omega)).mp q) (by omega))) (fun c_1 => ?_)
    refine px (fun _ => pm_iconst (v := 0) (pc := 12) d_Wk_copy_12 rfl) ?_
    refine px (fun _ => pm_istore (lv' := [(5, .int (0)), (4, .int (nI i)), (0, .ref (8 + 3 * a)), (1, .ref (8 + 3 * o9)), (2, .int (nI fr)), (3, .int (nI fc))]) (pc := 13) d_Wk_copy_13 (by decide) rfl) ?_
    refine pxd [0, 1, 2, 3, 4, 5] rfl ?_
    exact li_copy hl hW ho ha na hr hc (gT S a 2) i 0 f h H F iv (by omega) (by omega) (fun f1 h1 a1 a2 a3 => ih (i + 1) f1 h1 a1 a2 a3 (by omega) K)
set_option maxHeartbeats 4000000 in
set_option maxRecDepth 20000 in
theorem w_copy {l : Launch} {G : pm_G} {fi : Bool} {h : pm_H} {S : gS} {a o9 fr fc : Nat} {f0 : Nat → UInt64} (hl : l.stackTraces = false) (H : gH (gsC S o9 f0) h) (hW : gW S) (ho : o9 < 20) (ha : a < 20) (na : a ≠ o9) (hr : fr + gT S a 1 ≤ 4) (hc : fc + gT S a 2 ≤ 4) : pm_Cn l G fi fi 0 0 M_Wk_copy [.ref (8 + 3 * a), .ref (8 + 3 * o9), .int (nI fr), .int (nI fc)] h (fun r => r.1 = .inl none ∧ ∃ f, gH (gsC S o9 f) r.2 ∧ gFr h r.2 ∧ g_cinv S a f0 fr fc f (gT S a 1) 0) := by
  refine pm_Cn.of hl (by decide) (Nat.le_of_ble_eq_true rfl) ?_
  refine px (fun _ => pm_iconst (v := 0) (pc := 0) d_Wk_copy_0 rfl) ?_
  refine px (fun _ => pm_istore (lv' := [(4, .int (0)), (0, .ref (8 + 3 * a)), (1, .ref (8 + 3 * o9)), (2, .int (nI fr)), (3, .int (nI fc))]) (pc := 1) d_Wk_copy_1 (by decide) rfl) ?_
  refine lo_copy hl hW ho ha na hr hc (gT S a 1) 0 f0 h H (gFr.rf h) g_cinv.z (by omega) (fun f1 h1 H1 F1 iv => ?_)
  exact pxr (pm_vret (pc := 56) d_Wk_copy_56 rfl) ⟨rfl, f1, H1, F1, iv⟩
def g_rinv (S : gS) (a : Nat) (f0 : Nat → UInt64) (q z : Nat) (f : Nat → UInt64) (j : Nat) : Prop := ∀ x y, y < 4 → f (x * 4 + y) = if x = z ∧ y < j then gC S a (q * 4 + y) else f0 (x * 4 + y)
theorem g_rinv.z0 {S : gS} {a : Nat} {f0 : Nat → UInt64} {q z : Nat} : g_rinv S a f0 q z f0 0 := fun x y _ => by rw [if_neg (by omega)]
theorem g_rinv.step {S : gS} {a : Nat} {f0 f : Nat → UInt64} {q z j : Nat} (h : g_rinv S a f0 q z f j) (hj : j < 4) : g_rinv S a f0 q z (va_up f (z * 4 + j) (gC S a (q * 4 + j))) (j + 1) := by
  intro x y hy
  simp only [va_up]
  by_cases e : x * 4 + y = z * 4 + j
  · rw [if_pos e, if_pos (by omega), show y = j by omega]
  · rw [if_neg e, h x y hy]
    by_cases q : x = z ∧ y < j
    · rw [if_pos q, if_pos (by omega)]
    · rw [if_neg q, if_neg (by omega)]
set_option maxHeartbeats 4000000 in
set_option maxRecDepth 20000 in
theorem lq_crow {l : Launch} {G : pm_G} {fi : Bool} {S : gS} {h0 : pm_H} {Post : pm_O × pm_H → Prop} {a o9 q z : Nat} {f0 : Nat → UInt64} (hl : l.stackTraces = false) (hW : gW S) (ho : o9 < 20) (ha : a < 20) (na : a ≠ o9) (hq : q < 4) (hz : z < 4) : ∀ (d j : Nat) (f : Nat → UInt64) (h : pm_H), gH (gsC S o9 f) h → gFr h0 h → g_rinv S a f0 q z f (j) → j + d = gT S a 2 → (∀ f1 h1, gH (gsC S o9 f1) h1 → gFr h0 h1 → g_rinv S a f0 q z f1 (gT S a 2) → pm_Px l G fi fi 0 0 M_Wk_copyRow 32 [(0, .ref (8 + 3 * a)), (1, .int (nI q)), (2, .ref (8 + 3 * o9)), (3, .int (nI z))] [] h1 Post) → pm_Px l G fi fi 0 0 M_Wk_copyRow 3 [(4, .int (nI j)), (0, .ref (8 + 3 * a)), (1, .int (nI q)), (2, .ref (8 + 3 * o9)), (3, .int (nI z))] [] h Post := by
  intro d
  induction d with
  | zero =>
    intro j f h H F iv hd9 K
    have bo := hW.2.2.2.2.1 o9 ho
    have ba := hW.2.2.2.2.1 a ha
    have t_a : h[8 + 3 * a]? = some (pm_Ob 2 [.ref (9 + 3 * a), .int (nI (gT S a 0)), .int (nI (gT S a 1)), .int (nI (gT S a 2))]) := (H.2.2.2.2.2.2.1 a ha).2.1
    have t_o9 : h[8 + 3 * o9]? = some (pm_Ob 2 [.ref (9 + 3 * o9), .int (nI (gT S o9 0)), .int (nI (gT S o9 1)), .int (nI (gT S o9 2))]) := (H.2.2.2.2.2.2.1 o9 ho).2.1
    have ej : j = gT S a 2 := by omega
    refine px (fun _ => pm_iload (pc := 3) d_Wk_copyRow_3 rfl) ?_
    refine px (fun _ => pm_aload_n (pc := 5) d_Wk_copyRow_5 rfl) ?_
    refine px (fun _ => pm_getf fl_Wk_58 (pc := 6) d_Wk_copyRow_6 t_a rfl) ?_
    refine pxb (fun _ => pm_icmp_ge (pc := 9) (tgt := 32) d_Wk_copyRow_9 (by decide)) (fun c_1 => ?_) (fun c_1 => absurd (by rw [ej]; exact (nI_leI (a := gT S a 2) (b := gT S a 2) (by omega) (by omega)).mpr (Nat.le_refl _)) c_1)
    refine pxd [1, 2, 3, 4] rfl ?_
    exact K f h H F (by rw [ej] at iv; exact iv)
  | succ d ih =>
    intro j f h H F iv hd9 K
    have bo := hW.2.2.2.2.1 o9 ho
    have ba := hW.2.2.2.2.1 a ha
    have t_a : h[8 + 3 * a]? = some (pm_Ob 2 [.ref (9 + 3 * a), .int (nI (gT S a 0)), .int (nI (gT S a 1)), .int (nI (gT S a 2))]) := (H.2.2.2.2.2.2.1 a ha).2.1
    have t_o9 : h[8 + 3 * o9]? = some (pm_Ob 2 [.ref (9 + 3 * o9), .int (nI (gT S o9 0)), .int (nI (gT S o9 1)), .int (nI (gT S o9 2))]) := (H.2.2.2.2.2.2.1 o9 ho).2.1
    have hj : j < gT S a 2 := by omega
    refine px (fun _ => pm_iload (pc := 3) d_Wk_copyRow_3 rfl) ?_
    refine px (fun _ => pm_aload_n (pc := 5) d_Wk_copyRow_5 rfl) ?_
    refine px (fun _ => pm_getf fl_Wk_58 (pc := 6) d_Wk_copyRow_6 t_a rfl) ?_
    refine pxb (fun _ => pm_icmp_ge (pc := 9) (tgt := 32) d_Wk_copyRow_9 (by decide)) (fun c_1 => absurd c_1 (fun q => absurd ((nI_leI (a := gT S a 2) (b := j) (by omega) (by omega)).mp q) (by omega))) (fun c_1 => ?_)
    refine px (fun _ => pm_aload_n (pc := 12) d_Wk_copyRow_12 rfl) ?_
    refine px (fun _ => pm_iload_n (pc := 13) d_Wk_copyRow_13 rfl) ?_
    refine px (fun _ => pm_iload (pc := 14) d_Wk_copyRow_14 rfl) ?_
    refine px (fun _ => pm_aload_n (pc := 16) d_Wk_copyRow_16 rfl) ?_
    refine px (fun _ => pm_iload_n (pc := 17) d_Wk_copyRow_17 rfl) ?_
    refine px (fun _ => pm_iload (pc := 18) d_Wk_copyRow_18 rfl) ?_
    refine px (fun _ => k_Wk_copyRow_20 (kc1 := 0) (ks1 := 0) (kc := 0) (ks := 0) (av := [.int (nI q), .int (nI j)]) (st := [.int (nI j), .int (nI z), .ref (8 + 3 * o9)]) t_a (c_atf (i := q) (j := j) hl H ha na (by omega) (by omega)) rfl rfl (Nat.le_of_ble_eq_true rfl)) ?_
    obtain ⟨⟨o2, h2⟩, ⟨e2, H2, F2⟩, en2⟩ := c_putf (l := l) (G := G) (fi := fi) (v := gC S a (q * 4 + j)) hl H hW ho (i := z) (j := j) (by omega) (by omega)
    dsimp only at e2 H2 F2
    subst e2
    refine px (fun _ => k_Wk_copyRow_23 (kc1 := 0) (ks1 := 0) (kc := 0) (ks := 0) (av := [.int (nI z), .int (nI j), .double (gC S a (q * 4 + j))]) (st := []) t_o9 (en2) rfl rfl (Nat.le_of_ble_eq_true rfl)) ?_
    refine px (fun _ => pm_iinc (x := nI j) (v := nI (j + 1)) (lv' := [(4, .int (nI (j + 1))), (0, .ref (8 + 3 * a)), (1, .int (nI q)), (2, .ref (8 + 3 * o9)), (3, .int (nI z))]) (pc := 26) d_Wk_copyRow_26 rfl (nI_1 _) (by decide) rfl) ?_
    refine px (fun _ => pm_goto (tgt := 3) (pc := 29) d_Wk_copyRow_29 (by decide)) ?_
    refine pxd [0, 1, 2, 3, 4] rfl ?_
    exact ih (j + 1) _ _ H2 (F.tr (F2)) (iv.step (by omega)) (by omega) K
set_option maxHeartbeats 4000000 in
set_option maxRecDepth 20000 in
theorem w_crow {l : Launch} {G : pm_G} {fi : Bool} {h : pm_H} {S : gS} {a o9 q z : Nat} {f0 : Nat → UInt64} (hl : l.stackTraces = false) (H : gH (gsC S o9 f0) h) (hW : gW S) (ho : o9 < 20) (ha : a < 20) (na : a ≠ o9) (hq : q < 4) (hz : z < 4) : pm_Cn l G fi fi 0 0 M_Wk_copyRow [.ref (8 + 3 * a), .int (nI q), .ref (8 + 3 * o9), .int (nI z)] h (fun r => r.1 = .inl none ∧ ∃ f, gH (gsC S o9 f) r.2 ∧ gFr h r.2 ∧ g_rinv S a f0 q z f (gT S a 2)) := by
  refine pm_Cn.of hl (by decide) (Nat.le_of_ble_eq_true rfl) ?_
  refine px (fun _ => pm_iconst (v := 0) (pc := 0) d_Wk_copyRow_0 rfl) ?_
  refine px (fun _ => pm_istore (lv' := [(4, .int (0)), (0, .ref (8 + 3 * a)), (1, .int (nI q)), (2, .ref (8 + 3 * o9)), (3, .int (nI z))]) (pc := 1) d_Wk_copyRow_1 (by decide) rfl) ?_
  refine lq_crow hl hW ho ha na hq hz (gT S a 2) 0 f0 h H (gFr.rf h) g_rinv.z0 (by omega) (fun f1 h1 H1 F1 iv => ?_)
  exact pxr (pm_vret (pc := 32) d_Wk_copyRow_32 rfl) ⟨rfl, f1, H1, F1, iv⟩
