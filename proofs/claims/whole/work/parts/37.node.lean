/-! ===== the class: node, slot, count ===== -/
def g_ar (k : Nat) : Nat := ([2, 2, 2, 2, 2, 1, 1, 1, 2, 3, 1, 1, 1, 2, 1, 2, 2, 3, 1] : List Nat).getD k 1
theorem g_ar_ok : ∀ k, k < 19 → pm_ac k = nI (g_ar k) ∧ 1 ≤ g_ar k ∧ g_ar k ≤ 3 := by decide +kernel
theorem pm_tldN {l : Launch} {G : pm_G} {fi fo : Bool} {kc ks : Nat} {M : pm_M} {pc : Nat} {lv : List (Nat × Value)} {st : List Value} {h : pm_H} {r : pm_O × pm_H} {i : Int32} {j : Nat} (d : decode M.2.1 pc = .ok (.iaload, 1)) (hi : i = nI j) (hj : j < 19) (kk : pm_Ev l G fi fo kc ks M (pc + 1) lv (.int (nI (g_ar j)) :: st) h r) : pm_Ev l G fi fo kc ks M pc lv (.int i :: .retAddr 1 :: st) h r := pm_tld d hi hj (by rw [(g_ar_ok j hj).1]; exact kk)
abbrev gSl (x : Int32) : Prop := ¬ x < 0 ∧ ¬ 20 ≤ x
theorem c_isSlot_g {l : Launch} {G : pm_G} {fi : Bool} {h : pm_H} {s : Int32} (hl : l.stackTraces = false) : pm_En l G fi fi 0 0 M_Gr_isSlot [.int s] h (.inl (some (.int (if ¬ s < 0 ∧ ¬ 20 ≤ s then 1 else 0))), h) := c_Gr_isSlot hl
set_option maxHeartbeats 4000000 in
set_option maxRecDepth 20000 in
theorem c_areArgs {l : Launch} {G : pm_G} {fi : Bool} {h : pm_H} {m : Nat} {a b c : Int32} (hl : l.stackTraces = false) (hm : m ≤ 3) : pm_En l G fi fi 0 0 M_Gr_areArguments [.int (nI m), .int a, .int b, .int c] h (.inl (some (.int (if gSl a ∧ (m < 2 ∧ b = -1 ∨ ¬ m < 2 ∧ gSl b) ∧ (m < 3 ∧ c = -1 ∨ ¬ m < 3 ∧ gSl c) then 1 else 0))), h) := by
  refine pm_Cn.eq (pm_Cn.of hl (by decide) (Nat.le_of_ble_eq_true rfl) ?_)
  refine px (fun _ => pm_iload_n (pc := 0) d_Gr_areArguments_0 rfl) ?_
  refine px (fun _ => k_Gr_areArguments_1 (kc1 := 0) (ks1 := 0) (kc := 0) (ks := 0) (av := [.int (a)]) (st := []) (c_isSlot_g hl) rfl rfl (Nat.le_of_ble_eq_true rfl)) ?_
  refine pxb (fun _ => pm_if_eq (pc := 4) (tgt := 51) d_Gr_areArguments_4 (by decide)) (fun c_1 => ?_) (fun c_1 => ?_)
  · have n_c_1 : ¬ (¬ a < 0 ∧ ¬ 20 ≤ a) := g_if0.mp c_1
    refine px (fun _ => pm_iconst (v := 0) (pc := 51) d_Gr_areArguments_51 rfl) ?_
    exact pxr (pm_iret (pc := 52) d_Gr_areArguments_52 rfl rfl) (by rw [if_neg (by rintro ⟨q1, q2 | q2, q3 | q3⟩ <;> first | omega | exact absurd q1 (by assumption) | exact absurd q2.2 (by assumption) | exact absurd q3.2 (by assumption))])
  · have n_c_1 : ¬ a < 0 ∧ ¬ 20 ≤ a := Decidable.byContradiction fun q => c_1 (g_if0.mpr q)
    refine px (fun _ => pm_iload_n (pc := 7) d_Gr_areArguments_7 rfl) ?_
    refine px (fun _ => pm_iconst (v := 2) (pc := 8) d_Gr_areArguments_8 rfl) ?_
    refine pxb (fun _ => pm_icmp_lt (pc := 9) (tgt := 22) d_Gr_areArguments_9 (by decide)) (fun c_2 => ?_) (fun c_2 => ?_)
    · have n_c_2 : m < 2 := (nI_ltI (a := m) (b := 2) (by omega) (by omega)).mp c_2
      refine px (fun _ => pm_iload_n (pc := 22) d_Gr_areArguments_22 rfl) ?_
      refine px (fun _ => pm_iconst (v := -1) (pc := 23) d_Gr_areArguments_23 rfl) ?_
      refine pxn (fun _ => pm_icmp_ne (pc := 24) (tgt := 51) d_Gr_areArguments_24 (by decide)) (fun c_3 => ?_) (fun c_3 => ?_)
      · refine px (fun _ => pm_iconst (v := 0) (pc := 51) d_Gr_areArguments_51 rfl) ?_
        exact pxr (pm_iret (pc := 52) d_Gr_areArguments_52 rfl rfl) (by rw [if_neg (by rintro ⟨q1, q2 | q2, q3 | q3⟩ <;> first | omega | exact absurd q1 (by assumption) | exact absurd q2.2 (by assumption) | exact absurd q3.2 (by assumption))])
      · refine px (fun _ => pm_iload_n (pc := 27) d_Gr_areArguments_27 rfl) ?_
        refine px (fun _ => pm_iconst (v := 3) (pc := 28) d_Gr_areArguments_28 rfl) ?_
        refine pxb (fun _ => pm_icmp_lt (pc := 29) (tgt := 42) d_Gr_areArguments_29 (by decide)) (fun c_4 => ?_) (fun c_4 => ?_)
        · have n_c_4 : m < 3 := (nI_ltI (a := m) (b := 3) (by omega) (by omega)).mp c_4
          refine px (fun _ => pm_iload_n (pc := 42) d_Gr_areArguments_42 rfl) ?_
          refine px (fun _ => pm_iconst (v := -1) (pc := 43) d_Gr_areArguments_43 rfl) ?_
          refine pxn (fun _ => pm_icmp_ne (pc := 44) (tgt := 51) d_Gr_areArguments_44 (by decide)) (fun c_5 => ?_) (fun c_5 => ?_)
          · refine px (fun _ => pm_iconst (v := 0) (pc := 51) d_Gr_areArguments_51 rfl) ?_
            exact pxr (pm_iret (pc := 52) d_Gr_areArguments_52 rfl rfl) (by rw [if_neg (by rintro ⟨q1, q2 | q2, q3 | q3⟩ <;> first | omega | exact absurd q1 (by assumption) | exact absurd q2.2 (by assumption) | exact absurd q3.2 (by assumption))])
          · refine px (fun _ => pm_iconst (v := 1) (pc := 47) d_Gr_areArguments_47 rfl) ?_
            refine px (fun _ => pm_goto (tgt := 52) (pc := 48) d_Gr_areArguments_48 (by decide)) ?_
            exact pxr (pm_iret (pc := 52) d_Gr_areArguments_52 rfl rfl) (by rw [if_pos (by simp_all [gSl])])
        · have n_c_4 : ¬ (m < 3) := fun zq => c_4 ((nI_ltI (a := m) (b := 3) (by omega) (by omega)).mpr zq)
          refine px (fun _ => pm_iload_n (pc := 32) d_Gr_areArguments_32 rfl) ?_
          refine px (fun _ => k_Gr_areArguments_33 (kc1 := 0) (ks1 := 0) (kc := 0) (ks := 0) (av := [.int (c)]) (st := []) (c_isSlot_g hl) rfl rfl (Nat.le_of_ble_eq_true rfl)) ?_
          refine pxb (fun _ => pm_if_eq (pc := 36) (tgt := 51) d_Gr_areArguments_36 (by decide)) (fun c_6 => ?_) (fun c_6 => ?_)
          · have n_c_6 : ¬ (¬ c < 0 ∧ ¬ 20 ≤ c) := g_if0.mp c_6
            refine px (fun _ => pm_iconst (v := 0) (pc := 51) d_Gr_areArguments_51 rfl) ?_
            exact pxr (pm_iret (pc := 52) d_Gr_areArguments_52 rfl rfl) (by rw [if_neg (by rintro ⟨q1, q2 | q2, q3 | q3⟩ <;> first | omega | exact absurd q1 (by assumption) | exact absurd q2.2 (by assumption) | exact absurd q3.2 (by assumption))])
          · have n_c_6 : ¬ c < 0 ∧ ¬ 20 ≤ c := Decidable.byContradiction fun q => c_6 (g_if0.mpr q)
            refine px (fun _ => pm_goto (tgt := 47) (pc := 39) d_Gr_areArguments_39 (by decide)) ?_
            refine px (fun _ => pm_iconst (v := 1) (pc := 47) d_Gr_areArguments_47 rfl) ?_
            refine px (fun _ => pm_goto (tgt := 52) (pc := 48) d_Gr_areArguments_48 (by decide)) ?_
            exact pxr (pm_iret (pc := 52) d_Gr_areArguments_52 rfl rfl) (by rw [if_pos (by simp_all [gSl])])
    · have n_c_2 : ¬ (m < 2) := fun zq => c_2 ((nI_ltI (a := m) (b := 2) (by omega) (by omega)).mpr zq)
      refine px (fun _ => pm_iload_n (pc := 12) d_Gr_areArguments_12 rfl) ?_
      refine px (fun _ => k_Gr_areArguments_13 (kc1 := 0) (ks1 := 0) (kc := 0) (ks := 0) (av := [.int (b)]) (st := []) (c_isSlot_g hl) rfl rfl (Nat.le_of_ble_eq_true rfl)) ?_
      refine pxb (fun _ => pm_if_eq (pc := 16) (tgt := 51) d_Gr_areArguments_16 (by decide)) (fun c_7 => ?_) (fun c_7 => ?_)
      · have n_c_7 : ¬ (¬ b < 0 ∧ ¬ 20 ≤ b) := g_if0.mp c_7
        refine px (fun _ => pm_iconst (v := 0) (pc := 51) d_Gr_areArguments_51 rfl) ?_
        exact pxr (pm_iret (pc := 52) d_Gr_areArguments_52 rfl rfl) (by rw [if_neg (by rintro ⟨q1, q2 | q2, q3 | q3⟩ <;> first | omega | exact absurd q1 (by assumption) | exact absurd q2.2 (by assumption) | exact absurd q3.2 (by assumption))])
      · have n_c_7 : ¬ b < 0 ∧ ¬ 20 ≤ b := Decidable.byContradiction fun q => c_7 (g_if0.mpr q)
        refine px (fun _ => pm_goto (tgt := 27) (pc := 19) d_Gr_areArguments_19 (by decide)) ?_
        refine px (fun _ => pm_iload_n (pc := 27) d_Gr_areArguments_27 rfl) ?_
        refine px (fun _ => pm_iconst (v := 3) (pc := 28) d_Gr_areArguments_28 rfl) ?_
        refine pxb (fun _ => pm_icmp_lt (pc := 29) (tgt := 42) d_Gr_areArguments_29 (by decide)) (fun c_8 => ?_) (fun c_8 => ?_)
        · have n_c_8 : m < 3 := (nI_ltI (a := m) (b := 3) (by omega) (by omega)).mp c_8
          refine px (fun _ => pm_iload_n (pc := 42) d_Gr_areArguments_42 rfl) ?_
          refine px (fun _ => pm_iconst (v := -1) (pc := 43) d_Gr_areArguments_43 rfl) ?_
          refine pxn (fun _ => pm_icmp_ne (pc := 44) (tgt := 51) d_Gr_areArguments_44 (by decide)) (fun c_9 => ?_) (fun c_9 => ?_)
          · refine px (fun _ => pm_iconst (v := 0) (pc := 51) d_Gr_areArguments_51 rfl) ?_
            exact pxr (pm_iret (pc := 52) d_Gr_areArguments_52 rfl rfl) (by rw [if_neg (by rintro ⟨q1, q2 | q2, q3 | q3⟩ <;> first | omega | exact absurd q1 (by assumption) | exact absurd q2.2 (by assumption) | exact absurd q3.2 (by assumption))])
          · refine px (fun _ => pm_iconst (v := 1) (pc := 47) d_Gr_areArguments_47 rfl) ?_
            refine px (fun _ => pm_goto (tgt := 52) (pc := 48) d_Gr_areArguments_48 (by decide)) ?_
            exact pxr (pm_iret (pc := 52) d_Gr_areArguments_52 rfl rfl) (by rw [if_pos (by simp_all [gSl])])
        · have n_c_8 : ¬ (m < 3) := fun zq => c_8 ((nI_ltI (a := m) (b := 3) (by omega) (by omega)).mpr zq)
          refine px (fun _ => pm_iload_n (pc := 32) d_Gr_areArguments_32 rfl) ?_
          refine px (fun _ => k_Gr_areArguments_33 (kc1 := 0) (ks1 := 0) (kc := 0) (ks := 0) (av := [.int (c)]) (st := []) (c_isSlot_g hl) rfl rfl (Nat.le_of_ble_eq_true rfl)) ?_
          refine pxb (fun _ => pm_if_eq (pc := 36) (tgt := 51) d_Gr_areArguments_36 (by decide)) (fun c_10 => ?_) (fun c_10 => ?_)
          · have n_c_10 : ¬ (¬ c < 0 ∧ ¬ 20 ≤ c) := g_if0.mp c_10
            refine px (fun _ => pm_iconst (v := 0) (pc := 51) d_Gr_areArguments_51 rfl) ?_
            exact pxr (pm_iret (pc := 52) d_Gr_areArguments_52 rfl rfl) (by rw [if_neg (by rintro ⟨q1, q2 | q2, q3 | q3⟩ <;> first | omega | exact absurd q1 (by assumption) | exact absurd q2.2 (by assumption) | exact absurd q3.2 (by assumption))])
          · have n_c_10 : ¬ c < 0 ∧ ¬ 20 ≤ c := Decidable.byContradiction fun q => c_10 (g_if0.mpr q)
            refine px (fun _ => pm_goto (tgt := 47) (pc := 39) d_Gr_areArguments_39 (by decide)) ?_
            refine px (fun _ => pm_iconst (v := 1) (pc := 47) d_Gr_areArguments_47 rfl) ?_
            refine px (fun _ => pm_goto (tgt := 52) (pc := 48) d_Gr_areArguments_48 (by decide)) ?_
            exact pxr (pm_iret (pc := 52) d_Gr_areArguments_52 rfl rfl) (by rw [if_pos (by simp_all [gSl])])
set_option maxHeartbeats 4000000 in
set_option maxRecDepth 20000 in
theorem c_become {l : Launch} {G : pm_G} {fi : Bool} {h : pm_H} {S : gS} {n k j : Nat} {p q : Int32} (hl : l.stackTraces = false) (H : gH S h) (hW : gW S) (hn : n < 14) (hk : k < 19) : pm_Cn l G fi fi 0 0 M_Nd_become [.ref (67 + 2 * n), .int (nI k), .int (nI j), .int (p), .int (q)] h (fun x9 => x9.1 = .inl none ∧ gH (gsN (gsQ (gsQ (gsN (gsN S n 1 k) n 2 j) n 0 p) n 1 q) n 0 (g_ar k)) x9.2 ∧ gFr h x9.2) := by
  refine pm_Cn.of hl (by decide) (Nat.le_of_ble_eq_true rfl) ?_
  refine px (fun _ => pm_aload_n (pc := 0) d_Nd_become_0 rfl) ?_
  refine px (fun _ => pm_iload_n (pc := 1) d_Nd_become_1 rfl) ?_
  refine px (fun _ => pm_putfC (c' := pm_Ob 0 [.ref (68 + 2 * n), .int (nI (gN S n 0)), .int (nI k), .int (nI (gN S n 2)), .int (gQ S n 0), .int (gQ S n 1), .int (nI (gN S n 3)), .int (nI (gN S n 4)), .int (nI (gN S n 5))]) fp_Nd_19 (pc := 2) d_Nd_become_2 (H.2.2.2.2.2.2.2 n hn).1 (Nat.le_of_ble_eq_true rfl) rfl rfl rfl) ?_
  have H_1 : gH (gsN S n 1 k) (h.set (67 + 2 * n) (pm_Ob 0 [.ref (68 + 2 * n), .int (nI (gN S n 0)), .int (nI k), .int (nI (gN S n 2)), .int (gQ S n 0), .int (gQ S n 1), .int (nI (gN S n 3)), .int (nI (gN S n 4)), .int (nI (gN S n 5))])) := H.N1 (i := n) (v := k) hn
  refine px (fun _ => pm_aload_n (pc := 5) d_Nd_become_5 rfl) ?_
  refine px (fun _ => pm_iload_n (pc := 6) d_Nd_become_6 rfl) ?_
  refine px (fun _ => pm_putfC (c' := pm_Ob 0 [.ref (68 + 2 * n), .int (nI (gN (gsN S n 1 k) n 0)), .int (nI (gN (gsN S n 1 k) n 1)), .int (nI j), .int (gQ (gsN S n 1 k) n 0), .int (gQ (gsN S n 1 k) n 1), .int (nI (gN (gsN S n 1 k) n 3)), .int (nI (gN (gsN S n 1 k) n 4)), .int (nI (gN (gsN S n 1 k) n 5))]) fp_Nd_22 (pc := 7) d_Nd_become_7 (H_1.2.2.2.2.2.2.2 n hn).1 (Nat.le_of_ble_eq_true rfl) rfl rfl rfl) ?_
  have H_2 : gH (gsN (gsN S n 1 k) n 2 j) ((h.set (67 + 2 * n) (pm_Ob 0 [.ref (68 + 2 * n), .int (nI (gN S n 0)), .int (nI k), .int (nI (gN S n 2)), .int (gQ S n 0), .int (gQ S n 1), .int (nI (gN S n 3)), .int (nI (gN S n 4)), .int (nI (gN S n 5))])).set (67 + 2 * n) (pm_Ob 0 [.ref (68 + 2 * n), .int (nI (gN (gsN S n 1 k) n 0)), .int (nI (gN (gsN S n 1 k) n 1)), .int (nI j), .int (gQ (gsN S n 1 k) n 0), .int (gQ (gsN S n 1 k) n 1), .int (nI (gN (gsN S n 1 k) n 3)), .int (nI (gN (gsN S n 1 k) n 4)), .int (nI (gN (gsN S n 1 k) n 5))])) := H_1.N2 (i := n) (v := j) hn
  refine px (fun _ => pm_aload_n (pc := 10) d_Nd_become_10 rfl) ?_
  refine px (fun _ => pm_iload_n (pc := 11) d_Nd_become_11 rfl) ?_
  refine px (fun _ => pm_putfC (c' := pm_Ob 0 [.ref (68 + 2 * n), .int (nI (gN (gsN (gsN S n 1 k) n 2 j) n 0)), .int (nI (gN (gsN (gsN S n 1 k) n 2 j) n 1)), .int (nI (gN (gsN (gsN S n 1 k) n 2 j) n 2)), .int (p), .int (gQ (gsN (gsN S n 1 k) n 2 j) n 1), .int (nI (gN (gsN (gsN S n 1 k) n 2 j) n 3)), .int (nI (gN (gsN (gsN S n 1 k) n 2 j) n 4)), .int (nI (gN (gsN (gsN S n 1 k) n 2 j) n 5))]) fp_Nd_25 (pc := 12) d_Nd_become_12 (H_2.2.2.2.2.2.2.2 n hn).1 (Nat.le_of_ble_eq_true rfl) rfl rfl rfl) ?_
  have H_3 : gH (gsQ (gsN (gsN S n 1 k) n 2 j) n 0 p) (((h.set (67 + 2 * n) (pm_Ob 0 [.ref (68 + 2 * n), .int (nI (gN S n 0)), .int (nI k), .int (nI (gN S n 2)), .int (gQ S n 0), .int (gQ S n 1), .int (nI (gN S n 3)), .int (nI (gN S n 4)), .int (nI (gN S n 5))])).set (67 + 2 * n) (pm_Ob 0 [.ref (68 + 2 * n), .int (nI (gN (gsN S n 1 k) n 0)), .int (nI (gN (gsN S n 1 k) n 1)), .int (nI j), .int (gQ (gsN S n 1 k) n 0), .int (gQ (gsN S n 1 k) n 1), .int (nI (gN (gsN S n 1 k) n 3)), .int (nI (gN (gsN S n 1 k) n 4)), .int (nI (gN (gsN S n 1 k) n 5))])).set (67 + 2 * n) (pm_Ob 0 [.ref (68 + 2 * n), .int (nI (gN (gsN (gsN S n 1 k) n 2 j) n 0)), .int (nI (gN (gsN (gsN S n 1 k) n 2 j) n 1)), .int (nI (gN (gsN (gsN S n 1 k) n 2 j) n 2)), .int (p), .int (gQ (gsN (gsN S n 1 k) n 2 j) n 1), .int (nI (gN (gsN (gsN S n 1 k) n 2 j) n 3)), .int (nI (gN (gsN (gsN S n 1 k) n 2 j) n 4)), .int (nI (gN (gsN (gsN S n 1 k) n 2 j) n 5))])) := H_2.Q0 (i := n) (v := p) hn
  refine px (fun _ => pm_aload_n (pc := 15) d_Nd_become_15 rfl) ?_
  refine px (fun _ => pm_iload (pc := 16) d_Nd_become_16 rfl) ?_
  refine px (fun _ => pm_putfC (c' := pm_Ob 0 [.ref (68 + 2 * n), .int (nI (gN (gsQ (gsN (gsN S n 1 k) n 2 j) n 0 p) n 0)), .int (nI (gN (gsQ (gsN (gsN S n 1 k) n 2 j) n 0 p) n 1)), .int (nI (gN (gsQ (gsN (gsN S n 1 k) n 2 j) n 0 p) n 2)), .int (gQ (gsQ (gsN (gsN S n 1 k) n 2 j) n 0 p) n 0), .int (q), .int (nI (gN (gsQ (gsN (gsN S n 1 k) n 2 j) n 0 p) n 3)), .int (nI (gN (gsQ (gsN (gsN S n 1 k) n 2 j) n 0 p) n 4)), .int (nI (gN (gsQ (gsN (gsN S n 1 k) n 2 j) n 0 p) n 5))]) fp_Nd_28 (pc := 18) d_Nd_become_18 (H_3.2.2.2.2.2.2.2 n hn).1 (Nat.le_of_ble_eq_true rfl) rfl rfl rfl) ?_
  have H_4 : gH (gsQ (gsQ (gsN (gsN S n 1 k) n 2 j) n 0 p) n 1 q) ((((h.set (67 + 2 * n) (pm_Ob 0 [.ref (68 + 2 * n), .int (nI (gN S n 0)), .int (nI k), .int (nI (gN S n 2)), .int (gQ S n 0), .int (gQ S n 1), .int (nI (gN S n 3)), .int (nI (gN S n 4)), .int (nI (gN S n 5))])).set (67 + 2 * n) (pm_Ob 0 [.ref (68 + 2 * n), .int (nI (gN (gsN S n 1 k) n 0)), .int (nI (gN (gsN S n 1 k) n 1)), .int (nI j), .int (gQ (gsN S n 1 k) n 0), .int (gQ (gsN S n 1 k) n 1), .int (nI (gN (gsN S n 1 k) n 3)), .int (nI (gN (gsN S n 1 k) n 4)), .int (nI (gN (gsN S n 1 k) n 5))])).set (67 + 2 * n) (pm_Ob 0 [.ref (68 + 2 * n), .int (nI (gN (gsN (gsN S n 1 k) n 2 j) n 0)), .int (nI (gN (gsN (gsN S n 1 k) n 2 j) n 1)), .int (nI (gN (gsN (gsN S n 1 k) n 2 j) n 2)), .int (p), .int (gQ (gsN (gsN S n 1 k) n 2 j) n 1), .int (nI (gN (gsN (gsN S n 1 k) n 2 j) n 3)), .int (nI (gN (gsN (gsN S n 1 k) n 2 j) n 4)), .int (nI (gN (gsN (gsN S n 1 k) n 2 j) n 5))])).set (67 + 2 * n) (pm_Ob 0 [.ref (68 + 2 * n), .int (nI (gN (gsQ (gsN (gsN S n 1 k) n 2 j) n 0 p) n 0)), .int (nI (gN (gsQ (gsN (gsN S n 1 k) n 2 j) n 0 p) n 1)), .int (nI (gN (gsQ (gsN (gsN S n 1 k) n 2 j) n 0 p) n 2)), .int (gQ (gsQ (gsN (gsN S n 1 k) n 2 j) n 0 p) n 0), .int (q), .int (nI (gN (gsQ (gsN (gsN S n 1 k) n 2 j) n 0 p) n 3)), .int (nI (gN (gsQ (gsN (gsN S n 1 k) n 2 j) n 0 p) n 4)), .int (nI (gN (gsQ (gsN (gsN S n 1 k) n 2 j) n 0 p) n 5))])) := H_3.Q1 (i := n) (v := q) hn
  refine px (fun _ => pm_aload_n (pc := 21) d_Nd_become_21 rfl) ?_
  refine px (fun _ => pm_getsN (pc := 22) d_Nd_become_22 tn_333) ?_
  refine px (fun _ => pm_iload_n (pc := 25) d_Nd_become_25 rfl) ?_
  refine px (fun _ => pm_tldN (j := k) (pc := 26) d_Nd_become_26 (rfl) (hk)) ?_
  refine px (fun _ => pm_putfC (c' := pm_Ob 0 [.ref (68 + 2 * n), .int (nI (g_ar k)), .int (nI (gN (gsQ (gsQ (gsN (gsN S n 1 k) n 2 j) n 0 p) n 1 q) n 1)), .int (nI (gN (gsQ (gsQ (gsN (gsN S n 1 k) n 2 j) n 0 p) n 1 q) n 2)), .int (gQ (gsQ (gsQ (gsN (gsN S n 1 k) n 2 j) n 0 p) n 1 q) n 0), .int (gQ (gsQ (gsQ (gsN (gsN S n 1 k) n 2 j) n 0 p) n 1 q) n 1), .int (nI (gN (gsQ (gsQ (gsN (gsN S n 1 k) n 2 j) n 0 p) n 1 q) n 3)), .int (nI (gN (gsQ (gsQ (gsN (gsN S n 1 k) n 2 j) n 0 p) n 1 q) n 4)), .int (nI (gN (gsQ (gsQ (gsN (gsN S n 1 k) n 2 j) n 0 p) n 1 q) n 5))]) fp_Nd_15 (pc := 27) d_Nd_become_27 (H_4.2.2.2.2.2.2.2 n hn).1 (Nat.le_of_ble_eq_true rfl) rfl rfl rfl) ?_
  have H_5 : gH (gsN (gsQ (gsQ (gsN (gsN S n 1 k) n 2 j) n 0 p) n 1 q) n 0 (g_ar k)) (((((h.set (67 + 2 * n) (pm_Ob 0 [.ref (68 + 2 * n), .int (nI (gN S n 0)), .int (nI k), .int (nI (gN S n 2)), .int (gQ S n 0), .int (gQ S n 1), .int (nI (gN S n 3)), .int (nI (gN S n 4)), .int (nI (gN S n 5))])).set (67 + 2 * n) (pm_Ob 0 [.ref (68 + 2 * n), .int (nI (gN (gsN S n 1 k) n 0)), .int (nI (gN (gsN S n 1 k) n 1)), .int (nI j), .int (gQ (gsN S n 1 k) n 0), .int (gQ (gsN S n 1 k) n 1), .int (nI (gN (gsN S n 1 k) n 3)), .int (nI (gN (gsN S n 1 k) n 4)), .int (nI (gN (gsN S n 1 k) n 5))])).set (67 + 2 * n) (pm_Ob 0 [.ref (68 + 2 * n), .int (nI (gN (gsN (gsN S n 1 k) n 2 j) n 0)), .int (nI (gN (gsN (gsN S n 1 k) n 2 j) n 1)), .int (nI (gN (gsN (gsN S n 1 k) n 2 j) n 2)), .int (p), .int (gQ (gsN (gsN S n 1 k) n 2 j) n 1), .int (nI (gN (gsN (gsN S n 1 k) n 2 j) n 3)), .int (nI (gN (gsN (gsN S n 1 k) n 2 j) n 4)), .int (nI (gN (gsN (gsN S n 1 k) n 2 j) n 5))])).set (67 + 2 * n) (pm_Ob 0 [.ref (68 + 2 * n), .int (nI (gN (gsQ (gsN (gsN S n 1 k) n 2 j) n 0 p) n 0)), .int (nI (gN (gsQ (gsN (gsN S n 1 k) n 2 j) n 0 p) n 1)), .int (nI (gN (gsQ (gsN (gsN S n 1 k) n 2 j) n 0 p) n 2)), .int (gQ (gsQ (gsN (gsN S n 1 k) n 2 j) n 0 p) n 0), .int (q), .int (nI (gN (gsQ (gsN (gsN S n 1 k) n 2 j) n 0 p) n 3)), .int (nI (gN (gsQ (gsN (gsN S n 1 k) n 2 j) n 0 p) n 4)), .int (nI (gN (gsQ (gsN (gsN S n 1 k) n 2 j) n 0 p) n 5))])).set (67 + 2 * n) (pm_Ob 0 [.ref (68 + 2 * n), .int (nI (g_ar k)), .int (nI (gN (gsQ (gsQ (gsN (gsN S n 1 k) n 2 j) n 0 p) n 1 q) n 1)), .int (nI (gN (gsQ (gsQ (gsN (gsN S n 1 k) n 2 j) n 0 p) n 1 q) n 2)), .int (gQ (gsQ (gsQ (gsN (gsN S n 1 k) n 2 j) n 0 p) n 1 q) n 0), .int (gQ (gsQ (gsQ (gsN (gsN S n 1 k) n 2 j) n 0 p) n 1 q) n 1), .int (nI (gN (gsQ (gsQ (gsN (gsN S n 1 k) n 2 j) n 0 p) n 1 q) n 3)), .int (nI (gN (gsQ (gsQ (gsN (gsN S n 1 k) n 2 j) n 0 p) n 1 q) n 4)), .int (nI (gN (gsQ (gsQ (gsN (gsN S n 1 k) n 2 j) n 0 p) n 1 q) n 5))])) := H_4.N0 (i := n) (v := (g_ar k)) hn
  exact pxr (pm_vret (pc := 30) d_Nd_become_30 rfl) ⟨rfl, H_5, ((gFr.set _ _ (by omega))).tr (((gFr.set _ _ (by omega))).tr (((gFr.set _ _ (by omega))).tr (((gFr.set _ _ (by omega))).tr ((gFr.set _ _ (by omega))))))⟩
set_option maxHeartbeats 4000000 in
set_option maxRecDepth 20000 in
theorem c_takeArgs {l : Launch} {G : pm_G} {fi : Bool} {h : pm_H} {S : gS} {n : Nat} {a b c : Int32} (hl : l.stackTraces = false) (H : gH S h) (hW : gW S) (hn : n < 14) : pm_Cn l G fi fi 0 0 M_Nd_takeArguments [.ref (67 + 2 * n), .int (a), .int (b), .int (c)] h (fun x9 => x9.1 = .inl none ∧ gH (gsA (gsA (gsA S n (va_up (gA S n) (0) (a))) n (va_up (gA (gsA S n (va_up (gA S n) (0) (a))) n) (1) (b))) n (va_up (gA (gsA (gsA S n (va_up (gA S n) (0) (a))) n (va_up (gA (gsA S n (va_up (gA S n) (0) (a))) n) (1) (b))) n) (2) (c))) x9.2 ∧ gFr h x9.2) := by
  refine pm_Cn.of hl (by decide) (Nat.le_of_ble_eq_true rfl) ?_
  refine px (fun _ => pm_aload_n (pc := 0) d_Nd_takeArguments_0 rfl) ?_
  refine px (fun _ => pm_getf fl_Nd_9 (pc := 1) d_Nd_takeArguments_1 (H.2.2.2.2.2.2.2 n hn).1 rfl) ?_
  refine px (fun _ => pm_iconst (v := 0) (pc := 4) d_Nd_takeArguments_4 rfl) ?_
  refine px (fun _ => pm_iload_n (pc := 5) d_Nd_takeArguments_5 rfl) ?_
  refine px (fun _ => pm_iast (j := 0) (pc := 6) d_Nd_takeArguments_6 (H.2.2.2.2.2.2.2 n hn).2 (rfl) (by decide) (by decide)) ?_
  have H_1 : gH (gsA S n (va_up (gA S n) (0) (a))) (h.set (68 + 2 * n) (pm_I 3 (va_up (gA S n) (0) (a)))) := H.A (i := n) (f := (va_up (gA S n) (0) (a))) hn
  refine px (fun _ => pm_aload_n (pc := 7) d_Nd_takeArguments_7 rfl) ?_
  refine px (fun _ => pm_getf fl_Nd_9 (pc := 8) d_Nd_takeArguments_8 (H_1.2.2.2.2.2.2.2 n hn).1 rfl) ?_
  refine px (fun _ => pm_iconst (v := 1) (pc := 11) d_Nd_takeArguments_11 rfl) ?_
  refine px (fun _ => pm_iload_n (pc := 12) d_Nd_takeArguments_12 rfl) ?_
  refine px (fun _ => pm_iast (j := 1) (pc := 13) d_Nd_takeArguments_13 (H_1.2.2.2.2.2.2.2 n hn).2 (rfl) (by decide) (by decide)) ?_
  have H_2 : gH (gsA (gsA S n (va_up (gA S n) (0) (a))) n (va_up (gA (gsA S n (va_up (gA S n) (0) (a))) n) (1) (b))) ((h.set (68 + 2 * n) (pm_I 3 (va_up (gA S n) (0) (a)))).set (68 + 2 * n) (pm_I 3 (va_up (gA (gsA S n (va_up (gA S n) (0) (a))) n) (1) (b)))) := H_1.A (i := n) (f := (va_up (gA (gsA S n (va_up (gA S n) (0) (a))) n) (1) (b))) hn
  refine px (fun _ => pm_aload_n (pc := 14) d_Nd_takeArguments_14 rfl) ?_
  refine px (fun _ => pm_getf fl_Nd_9 (pc := 15) d_Nd_takeArguments_15 (H_2.2.2.2.2.2.2.2 n hn).1 rfl) ?_
  refine px (fun _ => pm_iconst (v := 2) (pc := 18) d_Nd_takeArguments_18 rfl) ?_
  refine px (fun _ => pm_iload_n (pc := 19) d_Nd_takeArguments_19 rfl) ?_
  refine px (fun _ => pm_iast (j := 2) (pc := 20) d_Nd_takeArguments_20 (H_2.2.2.2.2.2.2.2 n hn).2 (rfl) (by decide) (by decide)) ?_
  have H_3 : gH (gsA (gsA (gsA S n (va_up (gA S n) (0) (a))) n (va_up (gA (gsA S n (va_up (gA S n) (0) (a))) n) (1) (b))) n (va_up (gA (gsA (gsA S n (va_up (gA S n) (0) (a))) n (va_up (gA (gsA S n (va_up (gA S n) (0) (a))) n) (1) (b))) n) (2) (c))) (((h.set (68 + 2 * n) (pm_I 3 (va_up (gA S n) (0) (a)))).set (68 + 2 * n) (pm_I 3 (va_up (gA (gsA S n (va_up (gA S n) (0) (a))) n) (1) (b)))).set (68 + 2 * n) (pm_I 3 (va_up (gA (gsA (gsA S n (va_up (gA S n) (0) (a))) n (va_up (gA (gsA S n (va_up (gA S n) (0) (a))) n) (1) (b))) n) (2) (c)))) := H_2.A (i := n) (f := (va_up (gA (gsA (gsA S n (va_up (gA S n) (0) (a))) n (va_up (gA (gsA S n (va_up (gA S n) (0) (a))) n) (1) (b))) n) (2) (c))) hn
  exact pxr (pm_vret (pc := 21) d_Nd_takeArguments_21 rfl) ⟨rfl, H_3, ((gFr.set _ _ (by omega))).tr (((gFr.set _ _ (by omega))).tr ((gFr.set _ _ (by omega))))⟩
set_option maxHeartbeats 4000000 in
set_option maxRecDepth 20000 in
theorem c_undo_bad {l : Launch} {G : pm_G} {fi : Bool} {h : pm_H} {S : gS} (hl : l.stackTraces = false) (H : gH S h) (hn : gG S 0 = 0) : pm_En l G fi false 1 6 M_Gr_undo [.ref (0)] h (.inr "java/util/NoSuchElementException", h) := by
  refine pm_Cn.eq (pm_Cn.of hl (by decide) (Nat.le_of_ble_eq_true rfl) ?_)
  refine px (fun _ => pm_aload_n (pc := 0) d_Gr_undo_0 rfl) ?_
  refine px (fun _ => pm_getf fl_Gr_35 (pc := 1) d_Gr_undo_1 H.1 rfl) ?_
  refine pxn (fun _ => pm_if_ne (pc := 4) (tgt := 15) d_Gr_undo_4 (by decide)) (fun c_1 => absurd (by rw [hn]; rfl) c_1) (fun c_1 => ?_)
  exact pxr x_Gr_undo_7 rfl
theorem c_areArgs_ok {l : Launch} {G : pm_G} {fi : Bool} {h : pm_H} {m : Nat} {a b c : Int32} (hl : l.stackTraces = false) (hm : m ≤ 3) (hc : gSl a ∧ (m < 2 ∧ b = -1 ∨ ¬ m < 2 ∧ gSl b) ∧ (m < 3 ∧ c = -1 ∨ ¬ m < 3 ∧ gSl c)) : pm_En l G fi fi 0 0 M_Gr_areArguments [.int (nI m), .int a, .int b, .int c] h (.inl (some (.int 1)), h) := by
  have k := c_areArgs (l := l) (G := G) (fi := fi) (h := h) (m := m) (a := a) (b := b) (c := c) hl hm
  rw [if_pos hc] at k
  exact k
theorem c_isNumber_ok {l : Launch} {G : pm_G} {fi : Bool} {h : pm_H} {n : Int32} (hl : l.stackTraces = false) (hn : ¬ n < -8 ∧ ¬ 8 < n) : pm_En l G fi fi 0 0 M_Gr_isNumber [.int n] h (.inl (some (.int 1)), h) := by
  have k := c_Gr_isNumber (l := l) (G := G) (fi := fi) (h := h) (n := n) hl
  rw [if_pos hn] at k
  exact k
theorem gW.Q {S : gS} (hW : gW S) {i k : Nat} {v : Int32} : gW (gsQ S i k v) := hW
theorem gW.A {S : gS} (hW : gW S) {i : Nat} {f : Nat → Int32} : gW (gsA S i f) := hW
set_option maxHeartbeats 4000000 in
set_option maxRecDepth 20000 in
theorem c_node_ok {l : Launch} {G : pm_G} {fi : Bool} {h : pm_H} {S : gS} {k j : Nat} {a b c p q : Int32} (hl : l.stackTraces = false) (H : gH S h) (hW : gW S) (hk : k < 19) (hj : j < 20) (ha : gSl a ∧ (g_ar k < 2 ∧ b = -1 ∨ ¬ g_ar k < 2 ∧ gSl b) ∧ (g_ar k < 3 ∧ c = -1 ∨ ¬ g_ar k < 3 ∧ gSl c)) (hf : gK S j 0 = 0) (hp : ¬ p < -8 ∧ ¬ 8 < p) (hq : ¬ q < -8 ∧ ¬ 8 < q) (hn : gG S 0 < 14) : pm_Cn l G fi fi 0 0 M_Gr_node [.ref (0), .int (nI k), .int (a), .int (b), .int (c), .int (nI j), .int (p), .int (q)] h (fun x9 => x9.1 = .inl (some (.int (nI (gG S 0)))) ∧ gH (g_unp (gsG (gsK (gsK (gsA (gsA (gsA (gsN (gsQ (gsQ (gsN (gsN S (gG S 0) 1 k) (gG S 0) 2 j) (gG S 0) 0 p) (gG S 0) 1 q) (gG S 0) 0 (g_ar k)) (gG S 0) (va_up (gA (gsN (gsQ (gsQ (gsN (gsN S (gG S 0) 1 k) (gG S 0) 2 j) (gG S 0) 0 p) (gG S 0) 1 q) (gG S 0) 0 (g_ar k)) (gG S 0)) (0) (a))) (gG S 0) (va_up (gA (gsA (gsN (gsQ (gsQ (gsN (gsN S (gG S 0) 1 k) (gG S 0) 2 j) (gG S 0) 0 p) (gG S 0) 1 q) (gG S 0) 0 (g_ar k)) (gG S 0) (va_up (gA (gsN (gsQ (gsQ (gsN (gsN S (gG S 0) 1 k) (gG S 0) 2 j) (gG S 0) 0 p) (gG S 0) 1 q) (gG S 0) 0 (g_ar k)) (gG S 0)) (0) (a))) (gG S 0)) (1) (b))) (gG S 0) (va_up (gA (gsA (gsA (gsN (gsQ (gsQ (gsN (gsN S (gG S 0) 1 k) (gG S 0) 2 j) (gG S 0) 0 p) (gG S 0) 1 q) (gG S 0) 0 (g_ar k)) (gG S 0) (va_up (gA (gsN (gsQ (gsQ (gsN (gsN S (gG S 0) 1 k) (gG S 0) 2 j) (gG S 0) 0 p) (gG S 0) 1 q) (gG S 0) 0 (g_ar k)) (gG S 0)) (0) (a))) (gG S 0) (va_up (gA (gsA (gsN (gsQ (gsQ (gsN (gsN S (gG S 0) 1 k) (gG S 0) 2 j) (gG S 0) 0 p) (gG S 0) 1 q) (gG S 0) 0 (g_ar k)) (gG S 0) (va_up (gA (gsN (gsQ (gsQ (gsN (gsN S (gG S 0) 1 k) (gG S 0) 2 j) (gG S 0) 0 p) (gG S 0) 1 q) (gG S 0) 0 (g_ar k)) (gG S 0)) (0) (a))) (gG S 0)) (1) (b))) (gG S 0)) (2) (c))) j 0 3) j 1 (gG S 0)) 0 (gG S 0 + 1))) x9.2 ∧ gFr h x9.2) := by
  refine pm_Cn.of hl (by decide) (Nat.le_of_ble_eq_true rfl) ?_
  have ar := g_ar_ok k hk
  have hW1 : gW (gsN (gsQ (gsQ (gsN (gsN S (gG S 0) 1 k) (gG S 0) 2 j) (gG S 0) 0 p) (gG S 0) 1 q) (gG S 0) 0 (g_ar k)) := gW.N (gW.Q (gW.Q (gW.N (gW.N hW (by omega)) (by omega)))) (by omega)
  have hW2 : gW (gsG (gsK (gsK (gsA (gsA (gsA (gsN (gsQ (gsQ (gsN (gsN S (gG S 0) 1 k) (gG S 0) 2 j) (gG S 0) 0 p) (gG S 0) 1 q) (gG S 0) 0 (g_ar k)) (gG S 0) (va_up (gA (gsN (gsQ (gsQ (gsN (gsN S (gG S 0) 1 k) (gG S 0) 2 j) (gG S 0) 0 p) (gG S 0) 1 q) (gG S 0) 0 (g_ar k)) (gG S 0)) (0) (a))) (gG S 0) (va_up (gA (gsA (gsN (gsQ (gsQ (gsN (gsN S (gG S 0) 1 k) (gG S 0) 2 j) (gG S 0) 0 p) (gG S 0) 1 q) (gG S 0) 0 (g_ar k)) (gG S 0) (va_up (gA (gsN (gsQ (gsQ (gsN (gsN S (gG S 0) 1 k) (gG S 0) 2 j) (gG S 0) 0 p) (gG S 0) 1 q) (gG S 0) 0 (g_ar k)) (gG S 0)) (0) (a))) (gG S 0)) (1) (b))) (gG S 0) (va_up (gA (gsA (gsA (gsN (gsQ (gsQ (gsN (gsN S (gG S 0) 1 k) (gG S 0) 2 j) (gG S 0) 0 p) (gG S 0) 1 q) (gG S 0) 0 (g_ar k)) (gG S 0) (va_up (gA (gsN (gsQ (gsQ (gsN (gsN S (gG S 0) 1 k) (gG S 0) 2 j) (gG S 0) 0 p) (gG S 0) 1 q) (gG S 0) 0 (g_ar k)) (gG S 0)) (0) (a))) (gG S 0) (va_up (gA (gsA (gsN (gsQ (gsQ (gsN (gsN S (gG S 0) 1 k) (gG S 0) 2 j) (gG S 0) 0 p) (gG S 0) 1 q) (gG S 0) 0 (g_ar k)) (gG S 0) (va_up (gA (gsN (gsQ (gsQ (gsN (gsN S (gG S 0) 1 k) (gG S 0) 2 j) (gG S 0) 0 p) (gG S 0) 1 q) (gG S 0) 0 (g_ar k)) (gG S 0)) (0) (a))) (gG S 0)) (1) (b))) (gG S 0)) (2) (c))) j 0 3) j 1 (gG S 0)) 0 (gG S 0 + 1)) := gW.G (gW.K (gW.K (gW.A (gW.A (gW.A hW1))) (by omega)) (by omega)) (by omega)
  refine px (fun _ => pm_iload_n (pc := 0) d_Gr_node_0 rfl) ?_
  refine pxb (fun _ => pm_if_lt (pc := 1) (tgt := 50) d_Gr_node_1 (by decide)) (fun c_1 => absurd c_1 (nI_pos (by omega))) (fun c_1 => ?_)
  refine px (fun _ => pm_iload_n (pc := 4) d_Gr_node_4 rfl) ?_
  refine px (fun _ => pm_bipush (v := 18) (pc := 5) d_Gr_node_5 rfl) ?_
  refine pxb (fun _ => pm_icmp_gt (pc := 7) (tgt := 50) d_Gr_node_7 (by decide)) (fun c_2 => absurd c_2 (fun q => absurd ((nI_ltI (a := 18) (b := k) (by omega) (by omega)).mp q) (by omega))) (fun c_2 => ?_)
  refine px (fun _ => pm_gets (pc := 10) d_Gr_node_10 tw_306) ?_
  refine px (fun _ => pm_iload_n (pc := 13) d_Gr_node_13 rfl) ?_
  refine px (fun _ => pm_tldN (j := k) (pc := 14) d_Gr_node_14 (rfl) (hk)) ?_
  refine px (fun _ => pm_iload_n (pc := 15) d_Gr_node_15 rfl) ?_
  refine px (fun _ => pm_iload_n (pc := 16) d_Gr_node_16 rfl) ?_
  refine px (fun _ => pm_iload (pc := 17) d_Gr_node_17 rfl) ?_
  refine px (fun _ => k_Gr_node_19 (kc1 := 0) (ks1 := 0) (kc := 0) (ks := 0) (av := [.int (nI (g_ar k)), .int (a), .int (b), .int (c)]) (st := []) (c_areArgs_ok hl (g_ar_ok k hk).2.2 ha) rfl rfl (Nat.le_of_ble_eq_true rfl)) ?_
  refine pxb (fun _ => pm_if_eq (pc := 22) (tgt := 50) d_Gr_node_22 (by decide)) (fun c_3 => absurd c_3 (by decide)) (fun c_3 => ?_)
  refine px (fun _ => pm_aload_n (pc := 25) d_Gr_node_25 rfl) ?_
  refine px (fun _ => pm_iload (pc := 26) d_Gr_node_26 rfl) ?_
  refine px (fun _ => k_Gr_node_28 (kc1 := 0) (ks1 := 0) (kc := 0) (ks := 0) (av := [.int (nI j)]) (st := []) H.1 (c_isFree_ok hl H hW hj hf) rfl rfl (Nat.le_of_ble_eq_true rfl)) ?_
  refine pxb (fun _ => pm_if_eq (pc := 31) (tgt := 50) d_Gr_node_31 (by decide)) (fun c_4 => absurd c_4 (by decide)) (fun c_4 => ?_)
  refine px (fun _ => pm_iload (pc := 34) d_Gr_node_34 rfl) ?_
  refine px (fun _ => k_Gr_node_36 (kc1 := 0) (ks1 := 0) (kc := 0) (ks := 0) (av := [.int (p)]) (st := []) (c_isNumber_ok hl hp) rfl rfl (Nat.le_of_ble_eq_true rfl)) ?_
  refine pxb (fun _ => pm_if_eq (pc := 39) (tgt := 50) d_Gr_node_39 (by decide)) (fun c_5 => absurd c_5 (by decide)) (fun c_5 => ?_)
  refine px (fun _ => pm_iload (pc := 42) d_Gr_node_42 rfl) ?_
  refine px (fun _ => k_Gr_node_44 (kc1 := 0) (ks1 := 0) (kc := 0) (ks := 0) (av := [.int (q)]) (st := []) (c_isNumber_ok hl hq) rfl rfl (Nat.le_of_ble_eq_true rfl)) ?_
  refine pxn (fun _ => pm_if_ne (pc := 47) (tgt := 58) d_Gr_node_47 (by decide)) (fun c_6 => ?_) (fun c_6 => absurd c_6 (by decide))
  refine px (fun _ => pm_aload_n (pc := 58) d_Gr_node_58 rfl) ?_
  refine px (fun _ => pm_getf fl_Gr_35 (pc := 59) d_Gr_node_59 H.1 rfl) ?_
  refine px (fun _ => pm_bipush (v := 14) (pc := 62) d_Gr_node_62 rfl) ?_
  refine pxb (fun _ => pm_icmp_lt (pc := 64) (tgt := 75) d_Gr_node_64 (by decide)) (fun c_7 => ?_) (fun c_7 => absurd ((nI_ltI (a := gG S 0) (b := 14) (by omega) (by omega)).mpr hn) c_7)
  refine px (fun _ => pm_aload_n (pc := 75) d_Gr_node_75 rfl) ?_
  refine px (fun _ => pm_getf fl_Gr_17 (pc := 76) d_Gr_node_76 H.1 rfl) ?_
  refine px (fun _ => pm_aload_n (pc := 79) d_Gr_node_79 rfl) ?_
  refine px (fun _ => pm_getf fl_Gr_35 (pc := 80) d_Gr_node_80 H.1 rfl) ?_
  obtain ⟨f_8, hf_9, gf_10⟩ := id H.2.2.1
  refine px (fun _ => pm_aald (kd := 4) (Cn := "GraphRunner$Node") (j := gG S 0) (pc := 83) d_Gr_node_83 (fun _ => rfl) hf_9 (rfl) (hn) (by decide) (gf_10 (gG S 0) hn)) ?_
  refine px (fun _ => pm_iload_n (pc := 84) d_Gr_node_84 rfl) ?_
  refine px (fun _ => pm_iload (pc := 85) d_Gr_node_85 rfl) ?_
  refine px (fun _ => pm_iload (pc := 87) d_Gr_node_87 rfl) ?_
  refine px (fun _ => pm_iload (pc := 89) d_Gr_node_89 rfl) ?_
  obtain ⟨⟨o11, h11⟩, ⟨e11, H11, F11⟩, en11⟩ := c_become (l := l) (G := G) (fi := fi) (j := j) (p := p) (q := q) hl H hW hn hk
  dsimp only at e11 H11 F11
  subst e11
  refine px (fun _ => k_Gr_node_91 (kc1 := 0) (ks1 := 0) (kc := 0) (ks := 0) (av := [.int (nI k), .int (nI j), .int (p), .int (q)]) (st := []) (H.2.2.2.2.2.2.2 (gG S 0) hn).1 (en11) rfl rfl (Nat.le_of_ble_eq_true rfl)) ?_
  refine px (fun _ => pm_aload_n (pc := 94) d_Gr_node_94 rfl) ?_
  refine px (fun _ => pm_getf fl_Gr_17 (pc := 95) d_Gr_node_95 H11.1 rfl) ?_
  refine px (fun _ => pm_aload_n (pc := 98) d_Gr_node_98 rfl) ?_
  refine px (fun _ => pm_getf fl_Gr_35 (pc := 99) d_Gr_node_99 H11.1 rfl) ?_
  obtain ⟨f_12, hf_13, gf_14⟩ := id H11.2.2.1
  refine px (fun _ => pm_aald (kd := 4) (Cn := "GraphRunner$Node") (j := gG S 0) (pc := 102) d_Gr_node_102 (fun _ => rfl) hf_13 (rfl) (hn) (by decide) (gf_14 (gG S 0) hn)) ?_
  refine px (fun _ => pm_iload_n (pc := 103) d_Gr_node_103 rfl) ?_
  refine px (fun _ => pm_iload_n (pc := 104) d_Gr_node_104 rfl) ?_
  refine px (fun _ => pm_iload (pc := 105) d_Gr_node_105 rfl) ?_
  obtain ⟨⟨o15, h15⟩, ⟨e15, H15, F15⟩, en15⟩ := c_takeArgs (l := l) (G := G) (fi := fi) (n := gG S 0) (a := a) (b := b) (c := c) hl H11 hW1 hn
  dsimp only at e15 H15 F15
  subst e15
  refine px (fun _ => k_Gr_node_107 (kc1 := 0) (ks1 := 0) (kc := 0) (ks := 0) (av := [.int (a), .int (b), .int (c)]) (st := []) (H11.2.2.2.2.2.2.2 (gG S 0) hn).1 (en15) rfl rfl (Nat.le_of_ble_eq_true rfl)) ?_
  refine px (fun _ => pm_aload_n (pc := 110) d_Gr_node_110 rfl) ?_
  refine px (fun _ => pm_getf fl_Gr_11 (pc := 111) d_Gr_node_111 H15.1 rfl) ?_
  refine px (fun _ => pm_iload (pc := 114) d_Gr_node_114 rfl) ?_
  obtain ⟨f_16, hf_17, gf_18⟩ := id H15.2.1
  refine px (fun _ => pm_aald (kd := 3) (Cn := "GraphRunner$Slot") (j := j) (pc := 116) d_Gr_node_116 (fun _ => rfl) hf_17 (rfl) (hj) (by decide) (gf_18 j hj)) ?_
  refine px (fun _ => pm_iconst (v := 3) (pc := 117) d_Gr_node_117 rfl) ?_
  refine px (fun _ => pm_putfC (c' := pm_Ob 1 [.ref (8 + 3 * j), .int (3), .int (nI (gK (gsA (gsA (gsA (gsN (gsQ (gsQ (gsN (gsN S (gG S 0) 1 k) (gG S 0) 2 j) (gG S 0) 0 p) (gG S 0) 1 q) (gG S 0) 0 (g_ar k)) (gG S 0) (va_up (gA (gsN (gsQ (gsQ (gsN (gsN S (gG S 0) 1 k) (gG S 0) 2 j) (gG S 0) 0 p) (gG S 0) 1 q) (gG S 0) 0 (g_ar k)) (gG S 0)) (0) (a))) (gG S 0) (va_up (gA (gsA (gsN (gsQ (gsQ (gsN (gsN S (gG S 0) 1 k) (gG S 0) 2 j) (gG S 0) 0 p) (gG S 0) 1 q) (gG S 0) 0 (g_ar k)) (gG S 0) (va_up (gA (gsN (gsQ (gsQ (gsN (gsN S (gG S 0) 1 k) (gG S 0) 2 j) (gG S 0) 0 p) (gG S 0) 1 q) (gG S 0) 0 (g_ar k)) (gG S 0)) (0) (a))) (gG S 0)) (1) (b))) (gG S 0) (va_up (gA (gsA (gsA (gsN (gsQ (gsQ (gsN (gsN S (gG S 0) 1 k) (gG S 0) 2 j) (gG S 0) 0 p) (gG S 0) 1 q) (gG S 0) 0 (g_ar k)) (gG S 0) (va_up (gA (gsN (gsQ (gsQ (gsN (gsN S (gG S 0) 1 k) (gG S 0) 2 j) (gG S 0) 0 p) (gG S 0) 1 q) (gG S 0) 0 (g_ar k)) (gG S 0)) (0) (a))) (gG S 0) (va_up (gA (gsA (gsN (gsQ (gsQ (gsN (gsN S (gG S 0) 1 k) (gG S 0) 2 j) (gG S 0) 0 p) (gG S 0) 1 q) (gG S 0) 0 (g_ar k)) (gG S 0) (va_up (gA (gsN (gsQ (gsQ (gsN (gsN S (gG S 0) 1 k) (gG S 0) 2 j) (gG S 0) 0 p) (gG S 0) 1 q) (gG S 0) 0 (g_ar k)) (gG S 0)) (0) (a))) (gG S 0)) (1) (b))) (gG S 0)) (2) (c))) j 1))]) fp_Gr_64 (pc := 118) d_Gr_node_118 (H15.2.2.2.2.2.2.1 j hj).1 (Nat.le_of_ble_eq_true rfl) rfl rfl rfl) ?_
  have H_19 : gH (gsK (gsA (gsA (gsA (gsN (gsQ (gsQ (gsN (gsN S (gG S 0) 1 k) (gG S 0) 2 j) (gG S 0) 0 p) (gG S 0) 1 q) (gG S 0) 0 (g_ar k)) (gG S 0) (va_up (gA (gsN (gsQ (gsQ (gsN (gsN S (gG S 0) 1 k) (gG S 0) 2 j) (gG S 0) 0 p) (gG S 0) 1 q) (gG S 0) 0 (g_ar k)) (gG S 0)) (0) (a))) (gG S 0) (va_up (gA (gsA (gsN (gsQ (gsQ (gsN (gsN S (gG S 0) 1 k) (gG S 0) 2 j) (gG S 0) 0 p) (gG S 0) 1 q) (gG S 0) 0 (g_ar k)) (gG S 0) (va_up (gA (gsN (gsQ (gsQ (gsN (gsN S (gG S 0) 1 k) (gG S 0) 2 j) (gG S 0) 0 p) (gG S 0) 1 q) (gG S 0) 0 (g_ar k)) (gG S 0)) (0) (a))) (gG S 0)) (1) (b))) (gG S 0) (va_up (gA (gsA (gsA (gsN (gsQ (gsQ (gsN (gsN S (gG S 0) 1 k) (gG S 0) 2 j) (gG S 0) 0 p) (gG S 0) 1 q) (gG S 0) 0 (g_ar k)) (gG S 0) (va_up (gA (gsN (gsQ (gsQ (gsN (gsN S (gG S 0) 1 k) (gG S 0) 2 j) (gG S 0) 0 p) (gG S 0) 1 q) (gG S 0) 0 (g_ar k)) (gG S 0)) (0) (a))) (gG S 0) (va_up (gA (gsA (gsN (gsQ (gsQ (gsN (gsN S (gG S 0) 1 k) (gG S 0) 2 j) (gG S 0) 0 p) (gG S 0) 1 q) (gG S 0) 0 (g_ar k)) (gG S 0) (va_up (gA (gsN (gsQ (gsQ (gsN (gsN S (gG S 0) 1 k) (gG S 0) 2 j) (gG S 0) 0 p) (gG S 0) 1 q) (gG S 0) 0 (g_ar k)) (gG S 0)) (0) (a))) (gG S 0)) (1) (b))) (gG S 0)) (2) (c))) j 0 3) (h15.set (7 + 3 * j) (pm_Ob 1 [.ref (8 + 3 * j), .int (3), .int (nI (gK (gsA (gsA (gsA (gsN (gsQ (gsQ (gsN (gsN S (gG S 0) 1 k) (gG S 0) 2 j) (gG S 0) 0 p) (gG S 0) 1 q) (gG S 0) 0 (g_ar k)) (gG S 0) (va_up (gA (gsN (gsQ (gsQ (gsN (gsN S (gG S 0) 1 k) (gG S 0) 2 j) (gG S 0) 0 p) (gG S 0) 1 q) (gG S 0) 0 (g_ar k)) (gG S 0)) (0) (a))) (gG S 0) (va_up (gA (gsA (gsN (gsQ (gsQ (gsN (gsN S (gG S 0) 1 k) (gG S 0) 2 j) (gG S 0) 0 p) (gG S 0) 1 q) (gG S 0) 0 (g_ar k)) (gG S 0) (va_up (gA (gsN (gsQ (gsQ (gsN (gsN S (gG S 0) 1 k) (gG S 0) 2 j) (gG S 0) 0 p) (gG S 0) 1 q) (gG S 0) 0 (g_ar k)) (gG S 0)) (0) (a))) (gG S 0)) (1) (b))) (gG S 0) (va_up (gA (gsA (gsA (gsN (gsQ (gsQ (gsN (gsN S (gG S 0) 1 k) (gG S 0) 2 j) (gG S 0) 0 p) (gG S 0) 1 q) (gG S 0) 0 (g_ar k)) (gG S 0) (va_up (gA (gsN (gsQ (gsQ (gsN (gsN S (gG S 0) 1 k) (gG S 0) 2 j) (gG S 0) 0 p) (gG S 0) 1 q) (gG S 0) 0 (g_ar k)) (gG S 0)) (0) (a))) (gG S 0) (va_up (gA (gsA (gsN (gsQ (gsQ (gsN (gsN S (gG S 0) 1 k) (gG S 0) 2 j) (gG S 0) 0 p) (gG S 0) 1 q) (gG S 0) 0 (g_ar k)) (gG S 0) (va_up (gA (gsN (gsQ (gsQ (gsN (gsN S (gG S 0) 1 k) (gG S 0) 2 j) (gG S 0) 0 p) (gG S 0) 1 q) (gG S 0) 0 (g_ar k)) (gG S 0)) (0) (a))) (gG S 0)) (1) (b))) (gG S 0)) (2) (c))) j 1))])) := H15.K0 (i := j) (v := 3) hj
  refine px (fun _ => pm_aload_n (pc := 121) d_Gr_node_121 rfl) ?_
  refine px (fun _ => pm_getf fl_Gr_11 (pc := 122) d_Gr_node_122 H_19.1 rfl) ?_
  refine px (fun _ => pm_iload (pc := 125) d_Gr_node_125 rfl) ?_
  obtain ⟨f_20, hf_21, gf_22⟩ := id H_19.2.1
  refine px (fun _ => pm_aald (kd := 3) (Cn := "GraphRunner$Slot") (j := j) (pc := 127) d_Gr_node_127 (fun _ => rfl) hf_21 (rfl) (hj) (by decide) (gf_22 j hj)) ?_
  refine px (fun _ => pm_aload_n (pc := 128) d_Gr_node_128 rfl) ?_
  refine px (fun _ => pm_getf fl_Gr_35 (pc := 129) d_Gr_node_129 H_19.1 rfl) ?_
  refine px (fun _ => pm_putfC (c' := pm_Ob 1 [.ref (8 + 3 * j), .int (nI (gK (gsK (gsA (gsA (gsA (gsN (gsQ (gsQ (gsN (gsN S (gG S 0) 1 k) (gG S 0) 2 j) (gG S 0) 0 p) (gG S 0) 1 q) (gG S 0) 0 (g_ar k)) (gG S 0) (va_up (gA (gsN (gsQ (gsQ (gsN (gsN S (gG S 0) 1 k) (gG S 0) 2 j) (gG S 0) 0 p) (gG S 0) 1 q) (gG S 0) 0 (g_ar k)) (gG S 0)) (0) (a))) (gG S 0) (va_up (gA (gsA (gsN (gsQ (gsQ (gsN (gsN S (gG S 0) 1 k) (gG S 0) 2 j) (gG S 0) 0 p) (gG S 0) 1 q) (gG S 0) 0 (g_ar k)) (gG S 0) (va_up (gA (gsN (gsQ (gsQ (gsN (gsN S (gG S 0) 1 k) (gG S 0) 2 j) (gG S 0) 0 p) (gG S 0) 1 q) (gG S 0) 0 (g_ar k)) (gG S 0)) (0) (a))) (gG S 0)) (1) (b))) (gG S 0) (va_up (gA (gsA (gsA (gsN (gsQ (gsQ (gsN (gsN S (gG S 0) 1 k) (gG S 0) 2 j) (gG S 0) 0 p) (gG S 0) 1 q) (gG S 0) 0 (g_ar k)) (gG S 0) (va_up (gA (gsN (gsQ (gsQ (gsN (gsN S (gG S 0) 1 k) (gG S 0) 2 j) (gG S 0) 0 p) (gG S 0) 1 q) (gG S 0) 0 (g_ar k)) (gG S 0)) (0) (a))) (gG S 0) (va_up (gA (gsA (gsN (gsQ (gsQ (gsN (gsN S (gG S 0) 1 k) (gG S 0) 2 j) (gG S 0) 0 p) (gG S 0) 1 q) (gG S 0) 0 (g_ar k)) (gG S 0) (va_up (gA (gsN (gsQ (gsQ (gsN (gsN S (gG S 0) 1 k) (gG S 0) 2 j) (gG S 0) 0 p) (gG S 0) 1 q) (gG S 0) 0 (g_ar k)) (gG S 0)) (0) (a))) (gG S 0)) (1) (b))) (gG S 0)) (2) (c))) j 0 3) j 0)), .int (nI (gG S 0))]) fp_Gr_125 (pc := 132) d_Gr_node_132 (H_19.2.2.2.2.2.2.1 j hj).1 (Nat.le_of_ble_eq_true rfl) rfl rfl rfl) ?_
  have H_23 : gH (gsK (gsK (gsA (gsA (gsA (gsN (gsQ (gsQ (gsN (gsN S (gG S 0) 1 k) (gG S 0) 2 j) (gG S 0) 0 p) (gG S 0) 1 q) (gG S 0) 0 (g_ar k)) (gG S 0) (va_up (gA (gsN (gsQ (gsQ (gsN (gsN S (gG S 0) 1 k) (gG S 0) 2 j) (gG S 0) 0 p) (gG S 0) 1 q) (gG S 0) 0 (g_ar k)) (gG S 0)) (0) (a))) (gG S 0) (va_up (gA (gsA (gsN (gsQ (gsQ (gsN (gsN S (gG S 0) 1 k) (gG S 0) 2 j) (gG S 0) 0 p) (gG S 0) 1 q) (gG S 0) 0 (g_ar k)) (gG S 0) (va_up (gA (gsN (gsQ (gsQ (gsN (gsN S (gG S 0) 1 k) (gG S 0) 2 j) (gG S 0) 0 p) (gG S 0) 1 q) (gG S 0) 0 (g_ar k)) (gG S 0)) (0) (a))) (gG S 0)) (1) (b))) (gG S 0) (va_up (gA (gsA (gsA (gsN (gsQ (gsQ (gsN (gsN S (gG S 0) 1 k) (gG S 0) 2 j) (gG S 0) 0 p) (gG S 0) 1 q) (gG S 0) 0 (g_ar k)) (gG S 0) (va_up (gA (gsN (gsQ (gsQ (gsN (gsN S (gG S 0) 1 k) (gG S 0) 2 j) (gG S 0) 0 p) (gG S 0) 1 q) (gG S 0) 0 (g_ar k)) (gG S 0)) (0) (a))) (gG S 0) (va_up (gA (gsA (gsN (gsQ (gsQ (gsN (gsN S (gG S 0) 1 k) (gG S 0) 2 j) (gG S 0) 0 p) (gG S 0) 1 q) (gG S 0) 0 (g_ar k)) (gG S 0) (va_up (gA (gsN (gsQ (gsQ (gsN (gsN S (gG S 0) 1 k) (gG S 0) 2 j) (gG S 0) 0 p) (gG S 0) 1 q) (gG S 0) 0 (g_ar k)) (gG S 0)) (0) (a))) (gG S 0)) (1) (b))) (gG S 0)) (2) (c))) j 0 3) j 1 (gG S 0)) ((h15.set (7 + 3 * j) (pm_Ob 1 [.ref (8 + 3 * j), .int (3), .int (nI (gK (gsA (gsA (gsA (gsN (gsQ (gsQ (gsN (gsN S (gG S 0) 1 k) (gG S 0) 2 j) (gG S 0) 0 p) (gG S 0) 1 q) (gG S 0) 0 (g_ar k)) (gG S 0) (va_up (gA (gsN (gsQ (gsQ (gsN (gsN S (gG S 0) 1 k) (gG S 0) 2 j) (gG S 0) 0 p) (gG S 0) 1 q) (gG S 0) 0 (g_ar k)) (gG S 0)) (0) (a))) (gG S 0) (va_up (gA (gsA (gsN (gsQ (gsQ (gsN (gsN S (gG S 0) 1 k) (gG S 0) 2 j) (gG S 0) 0 p) (gG S 0) 1 q) (gG S 0) 0 (g_ar k)) (gG S 0) (va_up (gA (gsN (gsQ (gsQ (gsN (gsN S (gG S 0) 1 k) (gG S 0) 2 j) (gG S 0) 0 p) (gG S 0) 1 q) (gG S 0) 0 (g_ar k)) (gG S 0)) (0) (a))) (gG S 0)) (1) (b))) (gG S 0) (va_up (gA (gsA (gsA (gsN (gsQ (gsQ (gsN (gsN S (gG S 0) 1 k) (gG S 0) 2 j) (gG S 0) 0 p) (gG S 0) 1 q) (gG S 0) 0 (g_ar k)) (gG S 0) (va_up (gA (gsN (gsQ (gsQ (gsN (gsN S (gG S 0) 1 k) (gG S 0) 2 j) (gG S 0) 0 p) (gG S 0) 1 q) (gG S 0) 0 (g_ar k)) (gG S 0)) (0) (a))) (gG S 0) (va_up (gA (gsA (gsN (gsQ (gsQ (gsN (gsN S (gG S 0) 1 k) (gG S 0) 2 j) (gG S 0) 0 p) (gG S 0) 1 q) (gG S 0) 0 (g_ar k)) (gG S 0) (va_up (gA (gsN (gsQ (gsQ (gsN (gsN S (gG S 0) 1 k) (gG S 0) 2 j) (gG S 0) 0 p) (gG S 0) 1 q) (gG S 0) 0 (g_ar k)) (gG S 0)) (0) (a))) (gG S 0)) (1) (b))) (gG S 0)) (2) (c))) j 1))])).set (7 + 3 * j) (pm_Ob 1 [.ref (8 + 3 * j), .int (nI (gK (gsK (gsA (gsA (gsA (gsN (gsQ (gsQ (gsN (gsN S (gG S 0) 1 k) (gG S 0) 2 j) (gG S 0) 0 p) (gG S 0) 1 q) (gG S 0) 0 (g_ar k)) (gG S 0) (va_up (gA (gsN (gsQ (gsQ (gsN (gsN S (gG S 0) 1 k) (gG S 0) 2 j) (gG S 0) 0 p) (gG S 0) 1 q) (gG S 0) 0 (g_ar k)) (gG S 0)) (0) (a))) (gG S 0) (va_up (gA (gsA (gsN (gsQ (gsQ (gsN (gsN S (gG S 0) 1 k) (gG S 0) 2 j) (gG S 0) 0 p) (gG S 0) 1 q) (gG S 0) 0 (g_ar k)) (gG S 0) (va_up (gA (gsN (gsQ (gsQ (gsN (gsN S (gG S 0) 1 k) (gG S 0) 2 j) (gG S 0) 0 p) (gG S 0) 1 q) (gG S 0) 0 (g_ar k)) (gG S 0)) (0) (a))) (gG S 0)) (1) (b))) (gG S 0) (va_up (gA (gsA (gsA (gsN (gsQ (gsQ (gsN (gsN S (gG S 0) 1 k) (gG S 0) 2 j) (gG S 0) 0 p) (gG S 0) 1 q) (gG S 0) 0 (g_ar k)) (gG S 0) (va_up (gA (gsN (gsQ (gsQ (gsN (gsN S (gG S 0) 1 k) (gG S 0) 2 j) (gG S 0) 0 p) (gG S 0) 1 q) (gG S 0) 0 (g_ar k)) (gG S 0)) (0) (a))) (gG S 0) (va_up (gA (gsA (gsN (gsQ (gsQ (gsN (gsN S (gG S 0) 1 k) (gG S 0) 2 j) (gG S 0) 0 p) (gG S 0) 1 q) (gG S 0) 0 (g_ar k)) (gG S 0) (va_up (gA (gsN (gsQ (gsQ (gsN (gsN S (gG S 0) 1 k) (gG S 0) 2 j) (gG S 0) 0 p) (gG S 0) 1 q) (gG S 0) 0 (g_ar k)) (gG S 0)) (0) (a))) (gG S 0)) (1) (b))) (gG S 0)) (2) (c))) j 0 3) j 0)), .int (nI (gG S 0))])) := H_19.K1 (i := j) (v := (gG S 0)) hj
  refine px (fun _ => pm_aload_n (pc := 135) d_Gr_node_135 rfl) ?_
  refine px (fun _ => pm_dup (pc := 136) d_Gr_node_136 rfl) ?_
  refine px (fun _ => pm_getf fl_Gr_35 (pc := 137) d_Gr_node_137 H_23.1 rfl) ?_
  refine px (fun _ => pm_iconst (v := 1) (pc := 140) d_Gr_node_140 rfl) ?_
  refine px (fun _ => pm_iaddN (a := (gG S 0)) (b := 1) (pc := 141) d_Gr_node_141) ?_
  refine px (fun _ => pm_putfC (c' := pm_Ob 3 [.ref (1), .ref (2), .ref (3), .ref (4), .ref (5), .int (nI ((gG S 0) + 1)), .int (nI (gG S 1)), .int (nI (gG S 2)), .int (nI (gG S 3))]) fp_Gr_35 (pc := 142) d_Gr_node_142 H_23.1 (Nat.le_of_ble_eq_true rfl) rfl rfl rfl) ?_
  have H_24 : gH (gsG (gsK (gsK (gsA (gsA (gsA (gsN (gsQ (gsQ (gsN (gsN S (gG S 0) 1 k) (gG S 0) 2 j) (gG S 0) 0 p) (gG S 0) 1 q) (gG S 0) 0 (g_ar k)) (gG S 0) (va_up (gA (gsN (gsQ (gsQ (gsN (gsN S (gG S 0) 1 k) (gG S 0) 2 j) (gG S 0) 0 p) (gG S 0) 1 q) (gG S 0) 0 (g_ar k)) (gG S 0)) (0) (a))) (gG S 0) (va_up (gA (gsA (gsN (gsQ (gsQ (gsN (gsN S (gG S 0) 1 k) (gG S 0) 2 j) (gG S 0) 0 p) (gG S 0) 1 q) (gG S 0) 0 (g_ar k)) (gG S 0) (va_up (gA (gsN (gsQ (gsQ (gsN (gsN S (gG S 0) 1 k) (gG S 0) 2 j) (gG S 0) 0 p) (gG S 0) 1 q) (gG S 0) 0 (g_ar k)) (gG S 0)) (0) (a))) (gG S 0)) (1) (b))) (gG S 0) (va_up (gA (gsA (gsA (gsN (gsQ (gsQ (gsN (gsN S (gG S 0) 1 k) (gG S 0) 2 j) (gG S 0) 0 p) (gG S 0) 1 q) (gG S 0) 0 (g_ar k)) (gG S 0) (va_up (gA (gsN (gsQ (gsQ (gsN (gsN S (gG S 0) 1 k) (gG S 0) 2 j) (gG S 0) 0 p) (gG S 0) 1 q) (gG S 0) 0 (g_ar k)) (gG S 0)) (0) (a))) (gG S 0) (va_up (gA (gsA (gsN (gsQ (gsQ (gsN (gsN S (gG S 0) 1 k) (gG S 0) 2 j) (gG S 0) 0 p) (gG S 0) 1 q) (gG S 0) 0 (g_ar k)) (gG S 0) (va_up (gA (gsN (gsQ (gsQ (gsN (gsN S (gG S 0) 1 k) (gG S 0) 2 j) (gG S 0) 0 p) (gG S 0) 1 q) (gG S 0) 0 (g_ar k)) (gG S 0)) (0) (a))) (gG S 0)) (1) (b))) (gG S 0)) (2) (c))) j 0 3) j 1 (gG S 0)) 0 ((gG S 0) + 1)) (((h15.set (7 + 3 * j) (pm_Ob 1 [.ref (8 + 3 * j), .int (3), .int (nI (gK (gsA (gsA (gsA (gsN (gsQ (gsQ (gsN (gsN S (gG S 0) 1 k) (gG S 0) 2 j) (gG S 0) 0 p) (gG S 0) 1 q) (gG S 0) 0 (g_ar k)) (gG S 0) (va_up (gA (gsN (gsQ (gsQ (gsN (gsN S (gG S 0) 1 k) (gG S 0) 2 j) (gG S 0) 0 p) (gG S 0) 1 q) (gG S 0) 0 (g_ar k)) (gG S 0)) (0) (a))) (gG S 0) (va_up (gA (gsA (gsN (gsQ (gsQ (gsN (gsN S (gG S 0) 1 k) (gG S 0) 2 j) (gG S 0) 0 p) (gG S 0) 1 q) (gG S 0) 0 (g_ar k)) (gG S 0) (va_up (gA (gsN (gsQ (gsQ (gsN (gsN S (gG S 0) 1 k) (gG S 0) 2 j) (gG S 0) 0 p) (gG S 0) 1 q) (gG S 0) 0 (g_ar k)) (gG S 0)) (0) (a))) (gG S 0)) (1) (b))) (gG S 0) (va_up (gA (gsA (gsA (gsN (gsQ (gsQ (gsN (gsN S (gG S 0) 1 k) (gG S 0) 2 j) (gG S 0) 0 p) (gG S 0) 1 q) (gG S 0) 0 (g_ar k)) (gG S 0) (va_up (gA (gsN (gsQ (gsQ (gsN (gsN S (gG S 0) 1 k) (gG S 0) 2 j) (gG S 0) 0 p) (gG S 0) 1 q) (gG S 0) 0 (g_ar k)) (gG S 0)) (0) (a))) (gG S 0) (va_up (gA (gsA (gsN (gsQ (gsQ (gsN (gsN S (gG S 0) 1 k) (gG S 0) 2 j) (gG S 0) 0 p) (gG S 0) 1 q) (gG S 0) 0 (g_ar k)) (gG S 0) (va_up (gA (gsN (gsQ (gsQ (gsN (gsN S (gG S 0) 1 k) (gG S 0) 2 j) (gG S 0) 0 p) (gG S 0) 1 q) (gG S 0) 0 (g_ar k)) (gG S 0)) (0) (a))) (gG S 0)) (1) (b))) (gG S 0)) (2) (c))) j 1))])).set (7 + 3 * j) (pm_Ob 1 [.ref (8 + 3 * j), .int (nI (gK (gsK (gsA (gsA (gsA (gsN (gsQ (gsQ (gsN (gsN S (gG S 0) 1 k) (gG S 0) 2 j) (gG S 0) 0 p) (gG S 0) 1 q) (gG S 0) 0 (g_ar k)) (gG S 0) (va_up (gA (gsN (gsQ (gsQ (gsN (gsN S (gG S 0) 1 k) (gG S 0) 2 j) (gG S 0) 0 p) (gG S 0) 1 q) (gG S 0) 0 (g_ar k)) (gG S 0)) (0) (a))) (gG S 0) (va_up (gA (gsA (gsN (gsQ (gsQ (gsN (gsN S (gG S 0) 1 k) (gG S 0) 2 j) (gG S 0) 0 p) (gG S 0) 1 q) (gG S 0) 0 (g_ar k)) (gG S 0) (va_up (gA (gsN (gsQ (gsQ (gsN (gsN S (gG S 0) 1 k) (gG S 0) 2 j) (gG S 0) 0 p) (gG S 0) 1 q) (gG S 0) 0 (g_ar k)) (gG S 0)) (0) (a))) (gG S 0)) (1) (b))) (gG S 0) (va_up (gA (gsA (gsA (gsN (gsQ (gsQ (gsN (gsN S (gG S 0) 1 k) (gG S 0) 2 j) (gG S 0) 0 p) (gG S 0) 1 q) (gG S 0) 0 (g_ar k)) (gG S 0) (va_up (gA (gsN (gsQ (gsQ (gsN (gsN S (gG S 0) 1 k) (gG S 0) 2 j) (gG S 0) 0 p) (gG S 0) 1 q) (gG S 0) 0 (g_ar k)) (gG S 0)) (0) (a))) (gG S 0) (va_up (gA (gsA (gsN (gsQ (gsQ (gsN (gsN S (gG S 0) 1 k) (gG S 0) 2 j) (gG S 0) 0 p) (gG S 0) 1 q) (gG S 0) 0 (g_ar k)) (gG S 0) (va_up (gA (gsN (gsQ (gsQ (gsN (gsN S (gG S 0) 1 k) (gG S 0) 2 j) (gG S 0) 0 p) (gG S 0) 1 q) (gG S 0) 0 (g_ar k)) (gG S 0)) (0) (a))) (gG S 0)) (1) (b))) (gG S 0)) (2) (c))) j 0 3) j 0)), .int (nI (gG S 0))])).set (0) (pm_Ob 3 [.ref (1), .ref (2), .ref (3), .ref (4), .ref (5), .int (nI ((gG S 0) + 1)), .int (nI (gG S 1)), .int (nI (gG S 2)), .int (nI (gG S 3))])) := H_23.G0 (v := ((gG S 0) + 1))
  refine px (fun _ => pm_aload_n (pc := 145) d_Gr_node_145 rfl) ?_
  obtain ⟨⟨o25, h25⟩, ⟨e25, H25, F25⟩, en25⟩ := c_unprep (l := l) (G := G) (fi := fi) hl H_24 hW2
  dsimp only at e25 H25 F25
  subst e25
  refine px (fun _ => k_Gr_node_146 (kc1 := 0) (ks1 := 0) (kc := 0) (ks := 0) (av := []) (st := []) H_24.1 (en25) rfl rfl (Nat.le_of_ble_eq_true rfl)) ?_
  refine px (fun _ => pm_aload_n (pc := 149) d_Gr_node_149 rfl) ?_
  refine px (fun _ => pm_getf fl_Gr_35 (pc := 150) d_Gr_node_150 H25.1 rfl) ?_
  refine px (fun _ => pm_iconst (v := 1) (pc := 153) d_Gr_node_153 rfl) ?_
  refine px (fun _ => pm_isubN (a := (((gG S 0) + 1))) (b := 1) (pc := 154) d_Gr_node_154 (by omega)) ?_
  exact pxr (pm_iret (pc := 155) d_Gr_node_155 rfl rfl) ⟨rfl, H25, (F11).tr ((F15).tr (((gFr.set _ _ (by omega))).tr (((gFr.set _ _ (by omega))).tr (((gFr.set _ _ (by omega))).tr (F25)))))⟩
