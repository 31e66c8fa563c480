/-! ===== the class: tables, counts ===== -/
theorem c_isType_ok {l : Launch} {G : pm_G} {fi : Bool} {h : pm_H} {t : Nat} (hl : l.stackTraces = false) (ht : t ≤ 1) : pm_En l G fi fi 0 0 M_Gr_isType [.int (nI t)] h (.inl (some (.int 1)), h) := by
  have k := c_Gr_isType (l := l) (G := G) (fi := fi) (h := h) (t := nI t) hl
  rw [if_pos ((show t = 0 ∨ t = 1 by omega).elim (fun e => Or.inl (by rw [e]; rfl)) (fun e => Or.inr (by rw [e]; rfl)))] at k
  exact k
theorem c_isSide_N {l : Launch} {G : pm_G} {fi : Bool} {h : pm_H} {n : Nat} (hl : l.stackTraces = false) (hn : n < 1000) : pm_En l G fi fi 0 0 M_Gr_isSide [.int (nI n)] h (.inl (some (.int (if 1 ≤ n ∧ n ≤ 4 then 1 else 0))), h) := by
  have k := c_Gr_isSide (l := l) (G := G) (fi := fi) (h := h) (n := nI n) hl
  have e1 : nI n < 1 ↔ n < 1 := nI_ltI (a := n) (b := 1) (by omega) (by omega)
  have e2 : 4 < nI n ↔ 4 < n := nI_ltI (a := 4) (b := n) (by omega) (by omega)
  have e3 : (¬ nI n < 1 ∧ ¬ 4 < nI n) ↔ (1 ≤ n ∧ n ≤ 4) := by rw [e1, e2]; omega
  simp only [e3] at k
  exact k
theorem gW.T {S : gS} (hW : gW S) {i t r c : Nat} (ht : t ≤ 1) (hr : 1 ≤ r ∧ r ≤ 4) (hc : 1 ≤ c ∧ c ≤ 4) : gW (gsT (gsT (gsT S i 0 t) i 1 r) i 2 c) := by
  obtain ⟨b1, b2, b3, b4, b5, b6⟩ := hW
  refine ⟨b1, b2, b3, b4, fun n hn => ?_, b6⟩
  have b := b5 n hn
  simp only [gT, gK] at b
  simp only [gsT, gT, gK, g_up2]
  by_cases e : n = i
  · subst e
    simp
    omega
  · simp [e]
    omega
theorem gW.C {S : gS} (hW : gW S) {i : Nat} {f : Nat → UInt64} : gW (gsC S i f) := hW
theorem gW.K {S : gS} (hW : gW S) {i k v : Nat} (hv : (k = 0 → v ≤ 3) ∧ (k = 1 → v < 14)) : gW (gsK S i k v) := by
  obtain ⟨b1, b2, b3, b4, b5, b6⟩ := hW
  refine ⟨b1, b2, b3, b4, fun n hn => ?_, b6⟩
  have b := b5 n hn
  simp only [gT, gK] at b
  simp only [gsK, gT, gK, g_up2]
  refine ⟨?_, ?_, b.2.2⟩ <;> (split <;> omega)
abbrev g_z16 (f : Nat → UInt64) (i : Nat) : Nat → UInt64 := fun k => if i ≤ k ∧ k < 16 then FP.dconst0 else f k
set_option maxHeartbeats 4000000 in
set_option maxRecDepth 20000 in
theorem c_put {l : Launch} {G : pm_G} {fi : Bool} {h : pm_H} {S : gS} {j i k : Nat} {v : UInt64} (hl : l.stackTraces = false) (H : gH S h) (hW : gW S) (hj : j < 20) (hi : i < 4) (hk : k < 4) : pm_Cn l G fi fi 0 0 M_Tb_put [.ref (8 + 3 * j), .int (nI i), .int (nI k), .double (v)] h (fun x9 => x9.1 = .inl none ∧ gH (gsC S j (va_up (gC S j) (i * 4 + k) v)) x9.2 ∧ gFr h x9.2) := by
  refine pm_Cn.of hl (by decide) (Nat.le_of_ble_eq_true rfl) ?_
  refine px (fun _ => pm_aload_n (pc := 0) d_Tb_put_0 rfl) ?_
  refine px (fun _ => pm_getf fl_Tb_9 (pc := 1) d_Tb_put_1 (H.2.2.2.2.2.2.1 j hj).2.1 rfl) ?_
  refine px (fun _ => pm_iload_n (pc := 4) d_Tb_put_4 rfl) ?_
  refine px (fun _ => pm_iconst (v := 4) (pc := 5) d_Tb_put_5 rfl) ?_
  refine px (fun _ => pm_imulN (a := i) (b := 4) (pc := 6) d_Tb_put_6) ?_
  refine px (fun _ => pm_iload_n (pc := 7) d_Tb_put_7 rfl) ?_
  refine px (fun _ => pm_iaddN (a := (i * 4)) (b := k) (pc := 8) d_Tb_put_8) ?_
  refine px (fun _ => pm_dload_n (pc := 9) d_Tb_put_9 rfl) ?_
  refine px (fun _ => pm_dast (j := i * 4 + k) (pc := 10) d_Tb_put_10 (H.2.2.2.2.2.2.1 j hj).2.2 (rfl) (by omega) (by decide)) ?_
  have H_1 : gH (gsC S j (va_up (gC S j) (i * 4 + k) (v))) (h.set (9 + 3 * j) (pm_Dd 16 (va_up (gC S j) (i * 4 + k) (v)))) := H.C (i := j) (f := (va_up (gC S j) (i * 4 + k) (v))) hj
  exact pxr (pm_vret (pc := 11) d_Tb_put_11 rfl) ⟨rfl, H_1, (gFr.set _ _ (by omega))⟩
set_option maxHeartbeats 4000000 in
set_option maxRecDepth 20000 in
theorem c_shape {l : Launch} {G : pm_G} {fi : Bool} {h : pm_H} {S : gS} {j t r c : Nat} (hl : l.stackTraces = false) (H : gH S h) (hW : gW S) (hj : j < 20) (hr : r < 1000) (hc : c < 1000) : pm_Cn l G fi fi 0 0 M_Tb_shape [.ref (8 + 3 * j), .int (nI t), .int (nI r), .int (nI c)] h (fun x => x.1 = .inl (some (.int (if (1 ≤ r ∧ r ≤ 4) ∧ 1 ≤ c ∧ c ≤ 4 then 1 else 0))) ∧ gH (if (1 ≤ r ∧ r ≤ 4) ∧ 1 ≤ c ∧ c ≤ 4 then gsT (gsT (gsT S j 0 t) j 1 r) j 2 c else S) x.2 ∧ gFr h x.2) := by
  refine pm_Cn.of hl (by decide) (Nat.le_of_ble_eq_true rfl) ?_
  refine px (fun _ => pm_iload_n (pc := 0) d_Tb_shape_0 rfl) ?_
  refine px (fun _ => k_Tb_shape_1 (kc1 := 0) (ks1 := 0) (kc := 0) (ks := 0) (av := [.int (nI r)]) (st := []) (c_isSide_N hl hr) rfl rfl (Nat.le_of_ble_eq_true rfl)) ?_
  refine pxb (fun _ => pm_if_eq (pc := 4) (tgt := 14) d_Tb_shape_4 (by decide)) (fun c_1 => ?_) (fun c_1 => ?_)
  · have n_c_1 : ¬ (1 ≤ r ∧ r ≤ 4) := g_if0.mp c_1
    refine px (fun _ => pm_iconst (v := 0) (pc := 14) d_Tb_shape_14 rfl) ?_
    exact pxr (pm_iret (pc := 15) d_Tb_shape_15 rfl rfl) ⟨by rw [if_neg (by omega)], by rw [if_neg (by omega)]; exact H, gFr.rf h⟩
  · have n_c_1 : 1 ≤ r ∧ r ≤ 4 := Decidable.byContradiction fun q => c_1 (g_if0.mpr q)
    refine px (fun _ => pm_iload_n (pc := 7) d_Tb_shape_7 rfl) ?_
    refine px (fun _ => k_Tb_shape_8 (kc1 := 0) (ks1 := 0) (kc := 0) (ks := 0) (av := [.int (nI c)]) (st := []) (c_isSide_N hl hc) rfl rfl (Nat.le_of_ble_eq_true rfl)) ?_
    refine pxn (fun _ => pm_if_ne (pc := 11) (tgt := 16) d_Tb_shape_11 (by decide)) (fun c_2 => ?_) (fun c_2 => ?_)
    · have n_c_2 : 1 ≤ c ∧ c ≤ 4 := Decidable.byContradiction fun q => c_2 (g_if0.mpr q)
      refine px (fun _ => pm_aload_n (pc := 16) d_Tb_shape_16 rfl) ?_
      refine px (fun _ => pm_iload_n (pc := 17) d_Tb_shape_17 rfl) ?_
      refine px (fun _ => pm_putfC (c' := pm_Ob 2 [.ref (9 + 3 * j), .int (nI t), .int (nI (gT S j 1)), .int (nI (gT S j 2))]) fp_Tb_15 (pc := 18) d_Tb_shape_18 (H.2.2.2.2.2.2.1 j hj).2.1 (Nat.le_of_ble_eq_true rfl) rfl rfl rfl) ?_
      have H_3 : gH (gsT S j 0 t) (h.set (8 + 3 * j) (pm_Ob 2 [.ref (9 + 3 * j), .int (nI t), .int (nI (gT S j 1)), .int (nI (gT S j 2))])) := H.T0 (i := j) (v := t) hj
      refine px (fun _ => pm_aload_n (pc := 21) d_Tb_shape_21 rfl) ?_
      refine px (fun _ => pm_iload_n (pc := 22) d_Tb_shape_22 rfl) ?_
      refine px (fun _ => pm_putfC (c' := pm_Ob 2 [.ref (9 + 3 * j), .int (nI (gT (gsT S j 0 t) j 0)), .int (nI r), .int (nI (gT (gsT S j 0 t) j 2))]) fp_Tb_19 (pc := 23) d_Tb_shape_23 (H_3.2.2.2.2.2.2.1 j hj).2.1 (Nat.le_of_ble_eq_true rfl) rfl rfl rfl) ?_
      have H_4 : gH (gsT (gsT S j 0 t) j 1 r) ((h.set (8 + 3 * j) (pm_Ob 2 [.ref (9 + 3 * j), .int (nI t), .int (nI (gT S j 1)), .int (nI (gT S j 2))])).set (8 + 3 * j) (pm_Ob 2 [.ref (9 + 3 * j), .int (nI (gT (gsT S j 0 t) j 0)), .int (nI r), .int (nI (gT (gsT S j 0 t) j 2))])) := H_3.T1 (i := j) (v := r) hj
      refine px (fun _ => pm_aload_n (pc := 26) d_Tb_shape_26 rfl) ?_
      refine px (fun _ => pm_iload_n (pc := 27) d_Tb_shape_27 rfl) ?_
      refine px (fun _ => pm_putfC (c' := pm_Ob 2 [.ref (9 + 3 * j), .int (nI (gT (gsT (gsT S j 0 t) j 1 r) j 0)), .int (nI (gT (gsT (gsT S j 0 t) j 1 r) j 1)), .int (nI c)]) fp_Tb_22 (pc := 28) d_Tb_shape_28 (H_4.2.2.2.2.2.2.1 j hj).2.1 (Nat.le_of_ble_eq_true rfl) rfl rfl rfl) ?_
      have H_5 : gH (gsT (gsT (gsT S j 0 t) j 1 r) j 2 c) (((h.set (8 + 3 * j) (pm_Ob 2 [.ref (9 + 3 * j), .int (nI t), .int (nI (gT S j 1)), .int (nI (gT S j 2))])).set (8 + 3 * j) (pm_Ob 2 [.ref (9 + 3 * j), .int (nI (gT (gsT S j 0 t) j 0)), .int (nI r), .int (nI (gT (gsT S j 0 t) j 2))])).set (8 + 3 * j) (pm_Ob 2 [.ref (9 + 3 * j), .int (nI (gT (gsT (gsT S j 0 t) j 1 r) j 0)), .int (nI (gT (gsT (gsT S j 0 t) j 1 r) j 1)), .int (nI c)])) := H_4.T2 (i := j) (v := c) hj
      refine px (fun _ => pm_iconst (v := 1) (pc := 31) d_Tb_shape_31 rfl) ?_
      refine pxr (pm_iret (pc := 32) d_Tb_shape_32 rfl rfl) ⟨by rw [if_pos (by omega)], ?_, ((gFr.set _ _ (by omega))).tr (((gFr.set _ _ (by omega))).tr ((gFr.set _ _ (by omega))))⟩
      rw [if_pos (by omega)]
      exact H_5
    · have n_c_2 : ¬ (1 ≤ c ∧ c ≤ 4) := g_if0.mp c_2
      refine px (fun _ => pm_iconst (v := 0) (pc := 14) d_Tb_shape_14 rfl) ?_
      exact pxr (pm_iret (pc := 15) d_Tb_shape_15 rfl rfl) ⟨by rw [if_neg (by omega)], by rw [if_neg (by omega)]; exact H, gFr.rf h⟩
theorem g_z16_16 (f : Nat → UInt64) : g_z16 f 16 = f := by funext k; simp only [g_z16]; rw [if_neg (by omega)]
theorem g_z16_s (f : Nat → UInt64) {i : Nat} (h : i < 16) : g_z16 (va_up f i FP.dconst0) (i + 1) = g_z16 f i := by
  funext k
  simp only [g_z16, va_up]
  by_cases e : k = i
  · subst e
    rw [if_neg (by omega), if_pos rfl, if_pos (by omega)]
  · rw [if_neg e]
    by_cases q : i + 1 ≤ k ∧ k < 16
    · rw [if_pos q, if_pos (by omega)]
    · rw [if_neg q, if_neg (by omega)]
theorem gsC_C (S : gS) (j : Nat) (f g : Nat → UInt64) : gsC (gsC S j f) j g = gsC S j g := by
  have e : va_up (va_up S.2.2.2.2.2.1 j f) j g = va_up S.2.2.2.2.2.1 j g := bx_uu _ _ _ _
  simp only [gsC, e]
theorem gsC_self (S : gS) (j : Nat) : gsC S j (gC S j) = S := by
  have e : va_up S.2.2.2.2.2.1 j (S.2.2.2.2.2.1 j) = S.2.2.2.2.2.1 := by
    funext k
    simp only [va_up]
    split
    · rename_i q; rw [q]
    · rfl
  simp only [gsC, gC, e]
set_option maxHeartbeats 4000000 in
set_option maxRecDepth 20000 in
theorem lp_clear {l : Launch} {G : pm_G} {fi : Bool} {j : Nat} (hj : j < 20) : ∀ (d i : Nat) (S : gS) (h : pm_H), gH S h → i + d = 16 → pm_Px l G fi fi 0 0 M_Tb_clear 2 [(1, .int (nI i)), (0, .ref (8 + 3 * j))] [] h (fun r => r.1 = .inl none ∧ gH (gsC S j (g_z16 (gC S j) i)) r.2 ∧ gFr h r.2) := by
  intro d
  induction d with
  | zero =>
    intro i S h H hb
    refine px (fun _ => pm_iload_n (pc := 2) d_Tb_clear_2 rfl) ?_
    refine px (fun _ => pm_aload_n (pc := 3) d_Tb_clear_3 rfl) ?_
    refine px (fun _ => pm_getf fl_Tb_9 (pc := 4) d_Tb_clear_4 (H.2.2.2.2.2.2.1 j hj).2.1 rfl) ?_
    refine px (fun _ => pm_alenD (pc := 7) d_Tb_clear_7 (H.2.2.2.2.2.2.1 j hj).2.2) ?_
    refine pxb (fun _ => pm_icmp_ge (pc := 8) (tgt := 24) d_Tb_clear_8 (by decide)) (fun c_1 => ?_) (fun c_1 => absurd (by rw [show i = 16 by omega]; exact (nI_leI (a := 16) (b := 16) (by omega) (by omega)).mpr (Nat.le_refl _)) c_1)
    exact pxr (pm_vret (pc := 24) d_Tb_clear_24 rfl) ⟨rfl, by rw [show i = 16 by omega, g_z16_16, gsC_self]; exact H, gFr.rf h⟩
  | succ d ih =>
    intro i S h H hb
    have hi : i < 16 := by omega
    refine px (fun _ => pm_iload_n (pc := 2) d_Tb_clear_2 rfl) ?_
    refine px (fun _ => pm_aload_n (pc := 3) d_Tb_clear_3 rfl) ?_
    refine px (fun _ => pm_getf fl_Tb_9 (pc := 4) d_Tb_clear_4 (H.2.2.2.2.2.2.1 j hj).2.1 rfl) ?_
    refine px (fun _ => pm_alenD (pc := 7) d_Tb_clear_7 (H.2.2.2.2.2.2.1 j hj).2.2) ?_
    refine pxb (fun _ => pm_icmp_ge (pc := 8) (tgt := 24) d_Tb_clear_8 (by decide)) (fun c_1 => absurd c_1 (fun q => absurd ((nI_leI (a := 16) (b := i) (by omega) (by omega)).mp q) (by omega))) (fun c_1 => ?_)
    refine px (fun _ => pm_aload_n (pc := 11) d_Tb_clear_11 rfl) ?_
    refine px (fun _ => pm_getf fl_Tb_9 (pc := 12) d_Tb_clear_12 (H.2.2.2.2.2.2.1 j hj).2.1 rfl) ?_
    refine px (fun _ => pm_iload_n (pc := 15) d_Tb_clear_15 rfl) ?_
    refine px (fun _ => pm_dconst0 (pc := 16) d_Tb_clear_16) ?_
    refine px (fun _ => pm_dast (j := i) (pc := 17) d_Tb_clear_17 (H.2.2.2.2.2.2.1 j hj).2.2 (rfl) (hi) (by decide)) ?_
    have H_2 : gH (gsC S j (va_up (gC S j) (i) (FP.dconst0))) (h.set (9 + 3 * j) (pm_Dd 16 (va_up (gC S j) (i) (FP.dconst0)))) := H.C (i := j) (f := (va_up (gC S j) (i) (FP.dconst0))) hj
    refine px (fun _ => pm_iinc (x := nI i) (v := nI (i + 1)) (lv' := [(1, .int (nI (i + 1))), (0, .ref (8 + 3 * j))]) (pc := 18) d_Tb_clear_18 rfl (nI_1 _) (by decide) rfl) ?_
    refine px (fun _ => pm_goto (tgt := 2) (pc := 21) d_Tb_clear_21 (by decide)) ?_
    refine pxm (ih (i + 1) _ _ H_2 (by omega)) (fun r q => ⟨q.1, ?_, (gFr.set h _ (by omega)).tr q.2.2⟩)
    have q2 := q.2.1
    rw [gsC_C] at q2
    have e3 : gC (gsC S j (va_up (gC S j) (i) (FP.dconst0))) j = va_up (gC S j) i FP.dconst0 := by simp [gsC, gC, va_up]
    rw [e3, g_z16_s _ hi] at q2
    exact q2
set_option maxHeartbeats 4000000 in
set_option maxRecDepth 20000 in
theorem c_clear {l : Launch} {G : pm_G} {fi : Bool} {h : pm_H} {S : gS} {j : Nat} (hl : l.stackTraces = false) (H : gH S h) (hW : gW S) (hj : j < 20) : pm_Cn l G fi fi 0 0 M_Tb_clear [.ref (8 + 3 * j)] h (fun x9 => x9.1 = .inl none ∧ gH (gsC S j (g_z16 (gC S j) 0)) x9.2 ∧ gFr h x9.2) := by
  refine pm_Cn.of hl (by decide) (Nat.le_of_ble_eq_true rfl) ?_
  refine px (fun _ => pm_iconst (v := 0) (pc := 0) d_Tb_clear_0 rfl) ?_
  refine px (fun _ => pm_istore_n (lv' := [(1, .int (0)), (0, .ref (8 + 3 * j))]) (pc := 1) d_Tb_clear_1 (by decide) rfl) ?_
  exact lp_clear hj 16 0 S h H (by omega)
set_option maxHeartbeats 4000000 in
set_option maxRecDepth 20000 in
theorem lp_folded {l : Launch} {G : pm_G} {fi : Bool} {S : gS} {h : pm_H} (H : gH S h) (hW : gW S) : ∀ (d i c : Nat), i + d = gG S 0 → c ≤ i → pm_Px l G fi fi 0 0 M_Gr_foldedCount 4 [(2, .int (nI i)), (1, .int (nI c)), (0, .ref (0))] [] h (fun r => r = (.inl (some (.int (nI (c + g_cnt (fun n => gN S n 4) i d)))), h)) := by
  obtain ⟨b1, b2, b3, b4, b5, b6⟩ := id hW
  intro d
  induction d with
  | zero =>
    intro i c hb hc
    refine px (fun _ => pm_iload_n (pc := 4) d_Gr_foldedCount_4 rfl) ?_
    refine px (fun _ => pm_aload_n (pc := 5) d_Gr_foldedCount_5 rfl) ?_
    refine px (fun _ => pm_getf fl_Gr_35 (pc := 6) d_Gr_foldedCount_6 H.1 rfl) ?_
    refine pxb (fun _ => pm_icmp_ge (pc := 9) (tgt := 38) d_Gr_foldedCount_9 (by decide)) (fun c_1 => ?_) (fun c_1 => absurd (by rw [show i = gG S 0 by omega]; exact (nI_leI (a := gG S 0) (b := gG S 0) (by omega) (by omega)).mpr (Nat.le_refl _)) c_1)
    refine px (fun _ => pm_iload_n (pc := 38) d_Gr_foldedCount_38 rfl) ?_
    exact pxr (pm_iret (pc := 39) d_Gr_foldedCount_39 rfl rfl) rfl
  | succ d ih =>
    intro i c hb hc
    have hi : i < 14 := by omega
    have bn := b6 i hi
    refine px (fun _ => pm_iload_n (pc := 4) d_Gr_foldedCount_4 rfl) ?_
    refine px (fun _ => pm_aload_n (pc := 5) d_Gr_foldedCount_5 rfl) ?_
    refine px (fun _ => pm_getf fl_Gr_35 (pc := 6) d_Gr_foldedCount_6 H.1 rfl) ?_
    refine pxb (fun _ => pm_icmp_ge (pc := 9) (tgt := 38) d_Gr_foldedCount_9 (by decide)) (fun c_1 => absurd c_1 (fun q => absurd ((nI_leI (a := gG S 0) (b := i) (by omega) (by omega)).mp q) (by omega))) (fun c_1 => ?_)
    refine px (fun _ => pm_iload_n (pc := 12) d_Gr_foldedCount_12 rfl) ?_
    refine px (fun _ => pm_aload_n (pc := 13) d_Gr_foldedCount_13 rfl) ?_
    refine px (fun _ => pm_getf fl_Gr_17 (pc := 14) d_Gr_foldedCount_14 H.1 rfl) ?_
    refine px (fun _ => pm_iload_n (pc := 17) d_Gr_foldedCount_17 rfl) ?_
    obtain ⟨f_2, hf_3, gf_4⟩ := id H.2.2.1
    refine px (fun _ => pm_aald (kd := 4) (Cn := "GraphRunner$Node") (j := i) (pc := 18) d_Gr_foldedCount_18 (fun _ => rfl) hf_3 (rfl) (hi) (by decide) (gf_4 i hi)) ?_
    refine px (fun _ => pm_getf fl_Gr_187 (pc := 19) d_Gr_foldedCount_19 (H.2.2.2.2.2.2.2 i hi).1 rfl) ?_
    refine pxb (fun _ => pm_if_eq (pc := 22) (tgt := 29) d_Gr_foldedCount_22 (by decide)) (fun c_5 => ?_) (fun c_5 => ?_)
    · have n_c_5 : (gN S i 4) = 0 := (nI_eq (a := (gN S i 4)) (b := 0) (by omega) (by omega)).mp c_5
      refine px (fun _ => pm_iconst (v := 0) (pc := 29) d_Gr_foldedCount_29 rfl) ?_
      refine px (fun _ => pm_iaddN (a := c) (b := 0) (pc := 30) d_Gr_foldedCount_30) ?_
      refine px (fun _ => pm_istore_n (lv' := [(1, .int (nI (c + 0))), (2, .int (nI i)), (0, .ref (0))]) (pc := 31) d_Gr_foldedCount_31 (by decide) rfl) ?_
      refine px (fun _ => pm_iinc (x := nI i) (v := nI (i + 1)) (lv' := [(2, .int (nI (i + 1))), (1, .int (nI (c + 0))), (0, .ref (0))]) (pc := 32) d_Gr_foldedCount_32 rfl (nI_1 _) (by decide) rfl) ?_
      refine px (fun _ => pm_goto (tgt := 4) (pc := 35) d_Gr_foldedCount_35 (by decide)) ?_
      refine pxm (ih (i + 1) (c + 0) (by omega) (by omega)) (fun r q => ?_)
      rw [q, show g_cnt (fun n => gN S n 4) i (d + 1) = 0 + g_cnt (fun n => gN S n 4) (i + 1) d by simp only [g_cnt]; rw [if_pos (by omega)], Nat.add_assoc]
    · have n_c_5 : ¬ ((gN S i 4) = 0) := fun zq => c_5 ((nI_eq (a := (gN S i 4)) (b := 0) (by omega) (by omega)).mpr zq)
      refine px (fun _ => pm_iconst (v := 1) (pc := 25) d_Gr_foldedCount_25 rfl) ?_
      refine px (fun _ => pm_goto (tgt := 30) (pc := 26) d_Gr_foldedCount_26 (by decide)) ?_
      refine px (fun _ => pm_iaddN (a := c) (b := 1) (pc := 30) d_Gr_foldedCount_30) ?_
      refine px (fun _ => pm_istore_n (lv' := [(1, .int (nI (c + 1))), (2, .int (nI i)), (0, .ref (0))]) (pc := 31) d_Gr_foldedCount_31 (by decide) rfl) ?_
      refine px (fun _ => pm_iinc (x := nI i) (v := nI (i + 1)) (lv' := [(2, .int (nI (i + 1))), (1, .int (nI (c + 1))), (0, .ref (0))]) (pc := 32) d_Gr_foldedCount_32 rfl (nI_1 _) (by decide) rfl) ?_
      refine px (fun _ => pm_goto (tgt := 4) (pc := 35) d_Gr_foldedCount_35 (by decide)) ?_
      refine pxm (ih (i + 1) (c + 1) (by omega) (by omega)) (fun r q => ?_)
      rw [q, show g_cnt (fun n => gN S n 4) i (d + 1) = 1 + g_cnt (fun n => gN S n 4) (i + 1) d by simp only [g_cnt]; rw [if_neg (by omega)], Nat.add_assoc]
set_option maxHeartbeats 4000000 in
set_option maxRecDepth 20000 in
theorem c_folded {l : Launch} {G : pm_G} {fi : Bool} {h : pm_H} {S : gS}  (hl : l.stackTraces = false) (H : gH S h) (hW : gW S)  : pm_En l G fi fi 0 0 M_Gr_foldedCount [.ref (0)] h (.inl (some (.int (nI (g_cnt (fun n => gN S n 4) 0 (gG S 0))))), h) := by
  refine pm_Cn.eq (pm_Cn.of hl (by decide) (Nat.le_of_ble_eq_true rfl) ?_)
  refine px (fun _ => pm_iconst (v := 0) (pc := 0) d_Gr_foldedCount_0 rfl) ?_
  refine px (fun _ => pm_istore_n (lv' := [(1, .int (0)), (0, .ref (0))]) (pc := 1) d_Gr_foldedCount_1 (by decide) rfl) ?_
  refine px (fun _ => pm_iconst (v := 0) (pc := 2) d_Gr_foldedCount_2 rfl) ?_
  refine px (fun _ => pm_istore_n (lv' := [(2, .int (0)), (1, .int (0)), (0, .ref (0))]) (pc := 3) d_Gr_foldedCount_3 (by decide) rfl) ?_
  refine pxm (lp_folded H hW (gG S 0) 0 0 (by omega) (by omega)) (fun r q => ?_)
  rw [q, Nat.zero_add]
set_option maxHeartbeats 4000000 in
set_option maxRecDepth 20000 in
theorem lp_known {l : Launch} {G : pm_G} {fi : Bool} {S : gS} {h : pm_H} (H : gH S h) (hW : gW S) : ∀ (d i c : Nat), i + d = gG S 0 → c ≤ i → pm_Px l G fi fi 0 0 M_Gr_knownCount 4 [(2, .int (nI i)), (1, .int (nI c)), (0, .ref (0))] [] h (fun r => r = (.inl (some (.int (nI (c + g_cnt (fun n => gN S n 5) i d)))), h)) := by
  obtain ⟨b1, b2, b3, b4, b5, b6⟩ := id hW
  intro d
  induction d with
  | zero =>
    intro i c hb hc
    refine px (fun _ => pm_iload_n (pc := 4) d_Gr_knownCount_4 rfl) ?_
    refine px (fun _ => pm_aload_n (pc := 5) d_Gr_knownCount_5 rfl) ?_
    refine px (fun _ => pm_getf fl_Gr_35 (pc := 6) d_Gr_knownCount_6 H.1 rfl) ?_
    refine pxb (fun _ => pm_icmp_ge (pc := 9) (tgt := 38) d_Gr_knownCount_9 (by decide)) (fun c_1 => ?_) (fun c_1 => absurd (by rw [show i = gG S 0 by omega]; exact (nI_leI (a := gG S 0) (b := gG S 0) (by omega) (by omega)).mpr (Nat.le_refl _)) c_1)
    refine px (fun _ => pm_iload_n (pc := 38) d_Gr_knownCount_38 rfl) ?_
    exact pxr (pm_iret (pc := 39) d_Gr_knownCount_39 rfl rfl) rfl
  | succ d ih =>
    intro i c hb hc
    have hi : i < 14 := by omega
    have bn := b6 i hi
    refine px (fun _ => pm_iload_n (pc := 4) d_Gr_knownCount_4 rfl) ?_
    refine px (fun _ => pm_aload_n (pc := 5) d_Gr_knownCount_5 rfl) ?_
    refine px (fun _ => pm_getf fl_Gr_35 (pc := 6) d_Gr_knownCount_6 H.1 rfl) ?_
    refine pxb (fun _ => pm_icmp_ge (pc := 9) (tgt := 38) d_Gr_knownCount_9 (by decide)) (fun c_1 => absurd c_1 (fun q => absurd ((nI_leI (a := gG S 0) (b := i) (by omega) (by omega)).mp q) (by omega))) (fun c_1 => ?_)
    refine px (fun _ => pm_iload_n (pc := 12) d_Gr_knownCount_12 rfl) ?_
    refine px (fun _ => pm_aload_n (pc := 13) d_Gr_knownCount_13 rfl) ?_
    refine px (fun _ => pm_getf fl_Gr_17 (pc := 14) d_Gr_knownCount_14 H.1 rfl) ?_
    refine px (fun _ => pm_iload_n (pc := 17) d_Gr_knownCount_17 rfl) ?_
    obtain ⟨f_2, hf_3, gf_4⟩ := id H.2.2.1
    refine px (fun _ => pm_aald (kd := 4) (Cn := "GraphRunner$Node") (j := i) (pc := 18) d_Gr_knownCount_18 (fun _ => rfl) hf_3 (rfl) (hi) (by decide) (gf_4 i hi)) ?_
    refine px (fun _ => pm_getf fl_Gr_193 (pc := 19) d_Gr_knownCount_19 (H.2.2.2.2.2.2.2 i hi).1 rfl) ?_
    refine pxb (fun _ => pm_if_eq (pc := 22) (tgt := 29) d_Gr_knownCount_22 (by decide)) (fun c_5 => ?_) (fun c_5 => ?_)
    · have n_c_5 : (gN S i 5) = 0 := (nI_eq (a := (gN S i 5)) (b := 0) (by omega) (by omega)).mp c_5
      refine px (fun _ => pm_iconst (v := 0) (pc := 29) d_Gr_knownCount_29 rfl) ?_
      refine px (fun _ => pm_iaddN (a := c) (b := 0) (pc := 30) d_Gr_knownCount_30) ?_
      refine px (fun _ => pm_istore_n (lv' := [(1, .int (nI (c + 0))), (2, .int (nI i)), (0, .ref (0))]) (pc := 31) d_Gr_knownCount_31 (by decide) rfl) ?_
      refine px (fun _ => pm_iinc (x := nI i) (v := nI (i + 1)) (lv' := [(2, .int (nI (i + 1))), (1, .int (nI (c + 0))), (0, .ref (0))]) (pc := 32) d_Gr_knownCount_32 rfl (nI_1 _) (by decide) rfl) ?_
      refine px (fun _ => pm_goto (tgt := 4) (pc := 35) d_Gr_knownCount_35 (by decide)) ?_
      refine pxm (ih (i + 1) (c + 0) (by omega) (by omega)) (fun r q => ?_)
      rw [q, show g_cnt (fun n => gN S n 5) i (d + 1) = 0 + g_cnt (fun n => gN S n 5) (i + 1) d by simp only [g_cnt]; rw [if_pos (by omega)], Nat.add_assoc]
    · have n_c_5 : ¬ ((gN S i 5) = 0) := fun zq => c_5 ((nI_eq (a := (gN S i 5)) (b := 0) (by omega) (by omega)).mpr zq)
      refine px (fun _ => pm_iconst (v := 1) (pc := 25) d_Gr_knownCount_25 rfl) ?_
      refine px (fun _ => pm_goto (tgt := 30) (pc := 26) d_Gr_knownCount_26 (by decide)) ?_
      refine px (fun _ => pm_iaddN (a := c) (b := 1) (pc := 30) d_Gr_knownCount_30) ?_
      refine px (fun _ => pm_istore_n (lv' := [(1, .int (nI (c + 1))), (2, .int (nI i)), (0, .ref (0))]) (pc := 31) d_Gr_knownCount_31 (by decide) rfl) ?_
      refine px (fun _ => pm_iinc (x := nI i) (v := nI (i + 1)) (lv' := [(2, .int (nI (i + 1))), (1, .int (nI (c + 1))), (0, .ref (0))]) (pc := 32) d_Gr_knownCount_32 rfl (nI_1 _) (by decide) rfl) ?_
      refine px (fun _ => pm_goto (tgt := 4) (pc := 35) d_Gr_knownCount_35 (by decide)) ?_
      refine pxm (ih (i + 1) (c + 1) (by omega) (by omega)) (fun r q => ?_)
      rw [q, show g_cnt (fun n => gN S n 5) i (d + 1) = 1 + g_cnt (fun n => gN S n 5) (i + 1) d by simp only [g_cnt]; rw [if_neg (by omega)], Nat.add_assoc]
set_option maxHeartbeats 4000000 in
set_option maxRecDepth 20000 in
theorem c_known {l : Launch} {G : pm_G} {fi : Bool} {h : pm_H} {S : gS}  (hl : l.stackTraces = false) (H : gH S h) (hW : gW S)  : pm_En l G fi fi 0 0 M_Gr_knownCount [.ref (0)] h (.inl (some (.int (nI (g_cnt (fun n => gN S n 5) 0 (gG S 0))))), h) := by
  refine pm_Cn.eq (pm_Cn.of hl (by decide) (Nat.le_of_ble_eq_true rfl) ?_)
  refine px (fun _ => pm_iconst (v := 0) (pc := 0) d_Gr_knownCount_0 rfl) ?_
  refine px (fun _ => pm_istore_n (lv' := [(1, .int (0)), (0, .ref (0))]) (pc := 1) d_Gr_knownCount_1 (by decide) rfl) ?_
  refine px (fun _ => pm_iconst (v := 0) (pc := 2) d_Gr_knownCount_2 rfl) ?_
  refine px (fun _ => pm_istore_n (lv' := [(2, .int (0)), (1, .int (0)), (0, .ref (0))]) (pc := 3) d_Gr_knownCount_3 (by decide) rfl) ?_
  refine pxm (lp_known H hW (gG S 0) 0 0 (by omega) (by omega)) (fun r q => ?_)
  rw [q, Nat.zero_add]
