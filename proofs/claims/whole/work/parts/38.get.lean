/-! ===== the class: node refused, slot, get, count ===== -/
set_option maxHeartbeats 4000000 in
set_option maxRecDepth 20000 in
theorem c_node_b1 {l : Launch} {G : pm_G} {fi : Bool} {h : pm_H} {S : gS} {op a b c out p q : Int32} (hl : l.stackTraces = false) (H : gH S h) (hW : gW S) (ho : op < 0 ∨ 18 < op) : pm_En l G fi false 1 6 M_Gr_node [.ref (0), .int (op), .int (a), .int (b), .int (c), .int (out), .int (p), .int (q)] h (.inr "java/lang/IllegalArgumentException", h) := by
  refine pm_Cn.eq (pm_Cn.of hl (by decide) (Nat.le_of_ble_eq_true rfl) ?_)
  refine px (fun _ => pm_iload_n (pc := 0) d_Gr_node_0 rfl) ?_
  refine pxb (fun _ => pm_if_lt (pc := 1) (tgt := 50) d_Gr_node_1 (by decide)) (fun c_1 => ?_) (fun c_1 => ?_)
  · exact pxr x_Gr_node_50 rfl
  · refine px (fun _ => pm_iload_n (pc := 4) d_Gr_node_4 rfl) ?_
    refine px (fun _ => pm_bipush (v := 18) (pc := 5) d_Gr_node_5 rfl) ?_
    refine pxb (fun _ => pm_icmp_gt (pc := 7) (tgt := 50) d_Gr_node_7 (by decide)) (fun c_2 => ?_) (fun c_2 => ?_)
    · exact pxr x_Gr_node_50 rfl
    · exact absurd ho (fun q => q.elim (fun q => absurd q (by assumption)) (fun q => absurd q (by assumption)))
set_option maxHeartbeats 4000000 in
set_option maxRecDepth 20000 in
theorem c_node_b2 {l : Launch} {G : pm_G} {fi : Bool} {h : pm_H} {S : gS} {k : Nat} {a b c out p q : Int32} (hl : l.stackTraces = false) (H : gH S h) (hW : gW S) (hk : k < 19) (hs : out < 0 ∨ 20 ≤ out) : pm_En l G fi false 1 6 M_Gr_node [.ref (0), .int (nI k), .int (a), .int (b), .int (c), .int (out), .int (p), .int (q)] h (.inr "java/lang/IllegalArgumentException", h) := by
  refine pm_Cn.eq (pm_Cn.of hl (by decide) (Nat.le_of_ble_eq_true rfl) ?_)
  have ar := g_ar_ok k hk
  refine px (fun _ => pm_iload_n (pc := 0) d_Gr_node_0 rfl) ?_
  refine pxb (fun _ => pm_if_lt (pc := 1) (tgt := 50) d_Gr_node_1 (by decide)) (fun c_1 => absurd c_1 (nI_pos (by omega))) (fun c_1 => ?_)
  refine px (fun _ => pm_iload_n (pc := 4) d_Gr_node_4 rfl) ?_
  refine px (fun _ => pm_bipush (v := 18) (pc := 5) d_Gr_node_5 rfl) ?_
  refine pxb (fun _ => pm_icmp_gt (pc := 7) (tgt := 50) d_Gr_node_7 (by decide)) (fun c_2 => absurd c_2 (fun q => absurd ((nI_ltI (a := 18) (b := k) (by omega) (by omega)).mp q) (by omega))) (fun c_2 => ?_)
  refine px (fun _ => pm_gets (pc := 10) d_Gr_node_10 tw_306) ?_
  refine px (fun _ => pm_iload_n (pc := 13) d_Gr_node_13 rfl) ?_
  refine px (fun _ => pm_tldN (j := k) (pc := 14) d_Gr_node_14 (rfl) (hk)) ?_
  refine px (fun _ => pm_iload_n (pc := 15) d_Gr_node_15 rfl) ?_
  refine px (fun _ => pm_iload_n (pc := 16) d_Gr_node_16 rfl) ?_
  refine px (fun _ => pm_iload (pc := 17) d_Gr_node_17 rfl) ?_
  refine px (fun _ => k_Gr_node_19 (kc1 := 0) (ks1 := 0) (kc := 1) (ks := 6) (av := [.int (nI (g_ar k)), .int (a), .int (b), .int (c)]) (st := []) (c_areArgs hl ar.2.2) rfl rfl (Nat.le_of_ble_eq_true rfl)) ?_
  refine pxb (fun _ => pm_if_eq (pc := 22) (tgt := 50) d_Gr_node_22 (by decide)) (fun c_3 => ?_) (fun c_3 => ?_)
  · have n_c_3 : ¬ (gSl a ∧ (g_ar k < 2 ∧ b = -1 ∨ ¬ g_ar k < 2 ∧ gSl b) ∧ (g_ar k < 3 ∧ c = -1 ∨ ¬ g_ar k < 3 ∧ gSl c)) := g_if0.mp c_3
    exact pxr x_Gr_node_50 rfl
  · have n_c_3 : gSl a ∧ (g_ar k < 2 ∧ b = -1 ∨ ¬ g_ar k < 2 ∧ gSl b) ∧ (g_ar k < 3 ∧ c = -1 ∨ ¬ g_ar k < 3 ∧ gSl c) := Decidable.byContradiction fun q => c_3 (g_if0.mpr q)
    refine px (fun _ => pm_aload_n (pc := 25) d_Gr_node_25 rfl) ?_
    refine px (fun _ => pm_iload (pc := 26) d_Gr_node_26 rfl) ?_
    refine px (fun _ => k_Gr_node_28 (kc1 := 0) (ks1 := 0) (kc := 1) (ks := 6) (av := [.int (out)]) (st := []) H.1 (c_isFree_out hl hs) rfl rfl (Nat.le_of_ble_eq_true rfl)) ?_
    refine pxb (fun _ => pm_if_eq (pc := 31) (tgt := 50) d_Gr_node_31 (by decide)) (fun c_4 => ?_) (fun c_4 => absurd (by decide) c_4)
    exact pxr x_Gr_node_50 rfl
set_option maxHeartbeats 4000000 in
set_option maxRecDepth 20000 in
theorem c_node_b3 {l : Launch} {G : pm_G} {fi : Bool} {h : pm_H} {S : gS} {k j : Nat} {a b c p q : Int32} (hl : l.stackTraces = false) (H : gH S h) (hW : gW S) (hk : k < 19) (hj : j < 20) (hb : ¬ ((gSl a ∧ (g_ar k < 2 ∧ b = -1 ∨ ¬ g_ar k < 2 ∧ gSl b) ∧ (g_ar k < 3 ∧ c = -1 ∨ ¬ g_ar k < 3 ∧ gSl c)) ∧ gK S j 0 = 0 ∧ (¬ p < -8 ∧ ¬ 8 < p) ∧ (¬ q < -8 ∧ ¬ 8 < q))) : pm_En l G fi false 1 6 M_Gr_node [.ref (0), .int (nI k), .int (a), .int (b), .int (c), .int (nI j), .int (p), .int (q)] h (.inr "java/lang/IllegalArgumentException", h) := by
  refine pm_Cn.eq (pm_Cn.of hl (by decide) (Nat.le_of_ble_eq_true rfl) ?_)
  have ar := g_ar_ok k hk
  refine px (fun _ => pm_iload_n (pc := 0) d_Gr_node_0 rfl) ?_
  refine pxb (fun _ => pm_if_lt (pc := 1) (tgt := 50) d_Gr_node_1 (by decide)) (fun c_1 => absurd c_1 (nI_pos (by omega))) (fun c_1 => ?_)
  refine px (fun _ => pm_iload_n (pc := 4) d_Gr_node_4 rfl) ?_
  refine px (fun _ => pm_bipush (v := 18) (pc := 5) d_Gr_node_5 rfl) ?_
  refine pxb (fun _ => pm_icmp_gt (pc := 7) (tgt := 50) d_Gr_node_7 (by decide)) (fun c_2 => absurd c_2 (fun q => absurd ((nI_ltI (a := 18) (b := k) (by omega) (by omega)).mp q) (by omega))) (fun c_2 => ?_)
  refine px (fun _ => pm_gets (pc := 10) d_Gr_node_10 tw_306) ?_
  refine px (fun _ => pm_iload_n (pc := 13) d_Gr_node_13 rfl) ?_
  refine px (fun _ => pm_tldN (j := k) (pc := 14) d_Gr_node_14 (rfl) (hk)) ?_
  refine px (fun _ => pm_iload_n (pc := 15) d_Gr_node_15 rfl) ?_
  refine px (fun _ => pm_iload_n (pc := 16) d_Gr_node_16 rfl) ?_
  refine px (fun _ => pm_iload (pc := 17) d_Gr_node_17 rfl) ?_
  refine px (fun _ => k_Gr_node_19 (kc1 := 0) (ks1 := 0) (kc := 1) (ks := 6) (av := [.int (nI (g_ar k)), .int (a), .int (b), .int (c)]) (st := []) (c_areArgs hl ar.2.2) rfl rfl (Nat.le_of_ble_eq_true rfl)) ?_
  refine pxb (fun _ => pm_if_eq (pc := 22) (tgt := 50) d_Gr_node_22 (by decide)) (fun c_3 => ?_) (fun c_3 => ?_)
  · have n_c_3 : ¬ (gSl a ∧ (g_ar k < 2 ∧ b = -1 ∨ ¬ g_ar k < 2 ∧ gSl b) ∧ (g_ar k < 3 ∧ c = -1 ∨ ¬ g_ar k < 3 ∧ gSl c)) := g_if0.mp c_3
    exact pxr x_Gr_node_50 rfl
  · have n_c_3 : gSl a ∧ (g_ar k < 2 ∧ b = -1 ∨ ¬ g_ar k < 2 ∧ gSl b) ∧ (g_ar k < 3 ∧ c = -1 ∨ ¬ g_ar k < 3 ∧ gSl c) := Decidable.byContradiction fun q => c_3 (g_if0.mpr q)
    refine px (fun _ => pm_aload_n (pc := 25) d_Gr_node_25 rfl) ?_
    refine px (fun _ => pm_iload (pc := 26) d_Gr_node_26 rfl) ?_
    refine px (fun _ => k_Gr_node_28 (kc1 := 0) (ks1 := 0) (kc := 1) (ks := 6) (av := [.int (nI j)]) (st := []) H.1 (c_isFree_in hl H hW hj) rfl rfl (Nat.le_of_ble_eq_true rfl)) ?_
    refine pxb (fun _ => pm_if_eq (pc := 31) (tgt := 50) d_Gr_node_31 (by decide)) (fun c_4 => ?_) (fun c_4 => ?_)
    · have n_c_4 : ¬ (gK S j 0 = 0) := g_if0.mp c_4
      exact pxr x_Gr_node_50 rfl
    · have n_c_4 : gK S j 0 = 0 := Decidable.byContradiction fun q => c_4 (g_if0.mpr q)
      refine px (fun _ => pm_iload (pc := 34) d_Gr_node_34 rfl) ?_
      refine px (fun _ => k_Gr_node_36 (kc1 := 0) (ks1 := 0) (kc := 1) (ks := 6) (av := [.int (p)]) (st := []) (c_Gr_isNumber hl) rfl rfl (Nat.le_of_ble_eq_true rfl)) ?_
      refine pxb (fun _ => pm_if_eq (pc := 39) (tgt := 50) d_Gr_node_39 (by decide)) (fun c_5 => ?_) (fun c_5 => ?_)
      · have n_c_5 : ¬ (¬ p < -8 ∧ ¬ 8 < p) := g_if0.mp c_5
        exact pxr x_Gr_node_50 rfl
      · have n_c_5 : ¬ p < -8 ∧ ¬ 8 < p := Decidable.byContradiction fun q => c_5 (g_if0.mpr q)
        refine px (fun _ => pm_iload (pc := 42) d_Gr_node_42 rfl) ?_
        refine px (fun _ => k_Gr_node_44 (kc1 := 0) (ks1 := 0) (kc := 1) (ks := 6) (av := [.int (q)]) (st := []) (c_Gr_isNumber hl) rfl rfl (Nat.le_of_ble_eq_true rfl)) ?_
        refine pxn (fun _ => pm_if_ne (pc := 47) (tgt := 58) d_Gr_node_47 (by decide)) (fun c_6 => ?_) (fun c_6 => ?_)
        · have n_c_6 : ¬ q < -8 ∧ ¬ 8 < q := Decidable.byContradiction fun q => c_6 (g_if0.mpr q)
          exact absurd ⟨by assumption, by assumption, by assumption, by assumption⟩ hb
        · have n_c_6 : ¬ (¬ q < -8 ∧ ¬ 8 < q) := g_if0.mp c_6
          exact pxr x_Gr_node_50 rfl
set_option maxHeartbeats 4000000 in
set_option maxRecDepth 20000 in
theorem c_node_full {l : Launch} {G : pm_G} {fi : Bool} {h : pm_H} {S : gS} {k j : Nat} {a b c p q : Int32} (hl : l.stackTraces = false) (H : gH S h) (hW : gW S) (hk : k < 19) (hj : j < 20) (ha : gSl a ∧ (g_ar k < 2 ∧ b = -1 ∨ ¬ g_ar k < 2 ∧ gSl b) ∧ (g_ar k < 3 ∧ c = -1 ∨ ¬ g_ar k < 3 ∧ gSl c)) (hf : gK S j 0 = 0) (hp : ¬ p < -8 ∧ ¬ 8 < p) (hq : ¬ q < -8 ∧ ¬ 8 < q) (hn : gG S 0 = 14) : pm_En l G fi false 1 6 M_Gr_node [.ref (0), .int (nI k), .int (a), .int (b), .int (c), .int (nI j), .int (p), .int (q)] h (.inr "java/lang/IllegalStateException", h) := by
  refine pm_Cn.eq (pm_Cn.of hl (by decide) (Nat.le_of_ble_eq_true rfl) ?_)
  refine px (fun _ => pm_iload_n (pc := 0) d_Gr_node_0 rfl) ?_
  refine pxb (fun _ => pm_if_lt (pc := 1) (tgt := 50) d_Gr_node_1 (by decide)) (fun c_1 => absurd c_1 (nI_pos (by omega))) (fun c_1 => ?_)
  refine px (fun _ => pm_iload_n (pc := 4) d_Gr_node_4 rfl) ?_
  refine px (fun _ => pm_bipush (v := 18) (pc := 5) d_Gr_node_5 rfl) ?_
  refine pxb (fun _ => pm_icmp_gt (pc := 7) (tgt := 50) d_Gr_node_7 (by decide)) (fun c_2 => absurd c_2 (fun q => absurd ((nI_ltI (a := 18) (b := k) (by omega) (by omega)).mp q) (by omega))) (fun c_2 => ?_)
  refine px (fun _ => pm_gets (pc := 10) d_Gr_node_10 tw_306) ?_
  refine px (fun _ => pm_iload_n (pc := 13) d_Gr_node_13 rfl) ?_
  refine px (fun _ => pm_tldN (j := k) (pc := 14) d_Gr_node_14 (rfl) (hk)) ?_
  refine px (fun _ => pm_iload_n (pc := 15) d_Gr_node_15 rfl) ?_
  refine px (fun _ => pm_iload_n (pc := 16) d_Gr_node_16 rfl) ?_
  refine px (fun _ => pm_iload (pc := 17) d_Gr_node_17 rfl) ?_
  refine px (fun _ => k_Gr_node_19 (kc1 := 0) (ks1 := 0) (kc := 1) (ks := 6) (av := [.int (nI (g_ar k)), .int (a), .int (b), .int (c)]) (st := []) (c_areArgs_ok hl (g_ar_ok k hk).2.2 ha) rfl rfl (Nat.le_of_ble_eq_true rfl)) ?_
  refine pxb (fun _ => pm_if_eq (pc := 22) (tgt := 50) d_Gr_node_22 (by decide)) (fun c_3 => absurd c_3 (by decide)) (fun c_3 => ?_)
  refine px (fun _ => pm_aload_n (pc := 25) d_Gr_node_25 rfl) ?_
  refine px (fun _ => pm_iload (pc := 26) d_Gr_node_26 rfl) ?_
  refine px (fun _ => k_Gr_node_28 (kc1 := 0) (ks1 := 0) (kc := 1) (ks := 6) (av := [.int (nI j)]) (st := []) H.1 (c_isFree_ok hl H hW hj hf) rfl rfl (Nat.le_of_ble_eq_true rfl)) ?_
  refine pxb (fun _ => pm_if_eq (pc := 31) (tgt := 50) d_Gr_node_31 (by decide)) (fun c_4 => absurd c_4 (by decide)) (fun c_4 => ?_)
  refine px (fun _ => pm_iload (pc := 34) d_Gr_node_34 rfl) ?_
  refine px (fun _ => k_Gr_node_36 (kc1 := 0) (ks1 := 0) (kc := 1) (ks := 6) (av := [.int (p)]) (st := []) (c_isNumber_ok hl hp) rfl rfl (Nat.le_of_ble_eq_true rfl)) ?_
  refine pxb (fun _ => pm_if_eq (pc := 39) (tgt := 50) d_Gr_node_39 (by decide)) (fun c_5 => absurd c_5 (by decide)) (fun c_5 => ?_)
  refine px (fun _ => pm_iload (pc := 42) d_Gr_node_42 rfl) ?_
  refine px (fun _ => k_Gr_node_44 (kc1 := 0) (ks1 := 0) (kc := 1) (ks := 6) (av := [.int (q)]) (st := []) (c_isNumber_ok hl hq) rfl rfl (Nat.le_of_ble_eq_true rfl)) ?_
  refine pxn (fun _ => pm_if_ne (pc := 47) (tgt := 58) d_Gr_node_47 (by decide)) (fun c_6 => ?_) (fun c_6 => absurd c_6 (by decide))
  refine px (fun _ => pm_aload_n (pc := 58) d_Gr_node_58 rfl) ?_
  refine px (fun _ => pm_getf fl_Gr_35 (pc := 59) d_Gr_node_59 H.1 rfl) ?_
  refine px (fun _ => pm_bipush (v := 14) (pc := 62) d_Gr_node_62 rfl) ?_
  refine pxb (fun _ => pm_icmp_lt (pc := 64) (tgt := 75) d_Gr_node_64 (by decide)) (fun c_7 => absurd c_7 (fun q => absurd ((nI_ltI (a := gG S 0) (b := 14) (by omega) (by omega)).mp q) (by omega))) (fun c_7 => ?_)
  exact pxr x_Gr_node_67 rfl
set_option maxHeartbeats 4000000 in
set_option maxRecDepth 20000 in
theorem c_slot_b1 {l : Launch} {G : pm_G} {fi : Bool} {h : pm_H} {S : gS} {s w9 : Int32} (hl : l.stackTraces = false) (H : gH S h) (hW : gW S) (hs : s < 0 ∨ 20 ≤ s) : pm_En l G fi false 1 6 M_Gr_slot [.ref (0), .int (s), .int (w9)] h (.inr "java/lang/IllegalArgumentException", h) := by
  refine pm_Cn.eq (pm_Cn.of hl (by decide) (Nat.le_of_ble_eq_true rfl) ?_)
  refine px (fun _ => pm_iload_n (pc := 0) d_Gr_slot_0 rfl) ?_
  refine px (fun _ => k_Gr_slot_1 (kc1 := 0) (ks1 := 0) (kc := 1) (ks := 6) (av := [.int (s)]) (st := []) (c_isSlot_out hl hs) rfl rfl (Nat.le_of_ble_eq_true rfl)) ?_
  refine pxb (fun _ => pm_if_eq (pc := 4) (tgt := 16) d_Gr_slot_4 (by decide)) (fun c_1 => ?_) (fun c_1 => absurd (by decide) c_1)
  exact pxr x_Gr_slot_16 rfl
set_option maxHeartbeats 4000000 in
set_option maxRecDepth 20000 in
theorem c_slot_b2 {l : Launch} {G : pm_G} {fi : Bool} {h : pm_H} {S : gS} {j : Nat} {w9 : Int32} (hl : l.stackTraces = false) (H : gH S h) (hW : gW S) (hj : j < 20) (hs : w9 < 0 ∨ ¬ w9 ≤ 3) : pm_En l G fi false 1 6 M_Gr_slot [.ref (0), .int (nI j), .int (w9)] h (.inr "java/lang/IllegalArgumentException", h) := by
  refine pm_Cn.eq (pm_Cn.of hl (by decide) (Nat.le_of_ble_eq_true rfl) ?_)
  refine px (fun _ => pm_iload_n (pc := 0) d_Gr_slot_0 rfl) ?_
  refine px (fun _ => k_Gr_slot_1 (kc1 := 0) (ks1 := 0) (kc := 1) (ks := 6) (av := [.int (nI j)]) (st := []) (c_isSlot_in hl hj) rfl rfl (Nat.le_of_ble_eq_true rfl)) ?_
  refine pxb (fun _ => pm_if_eq (pc := 4) (tgt := 16) d_Gr_slot_4 (by decide)) (fun c_1 => absurd c_1 (by decide)) (fun c_1 => ?_)
  refine px (fun _ => pm_iload_n (pc := 7) d_Gr_slot_7 rfl) ?_
  refine pxb (fun _ => pm_if_lt (pc := 8) (tgt := 16) d_Gr_slot_8 (by decide)) (fun c_2 => ?_) (fun c_2 => ?_)
  · exact pxr x_Gr_slot_16 rfl
  · refine px (fun _ => pm_iload_n (pc := 11) d_Gr_slot_11 rfl) ?_
    refine px (fun _ => pm_iconst (v := 3) (pc := 12) d_Gr_slot_12 rfl) ?_
    refine pxb (fun _ => pm_icmp_le (pc := 13) (tgt := 24) d_Gr_slot_13 (by decide)) (fun c_3 => ?_) (fun c_3 => ?_)
    · exact absurd hs (fun q => q.elim (fun q => absurd q (by assumption)) (fun q => q (by assumption)))
    · exact pxr x_Gr_slot_16 rfl
set_option maxHeartbeats 4000000 in
set_option maxRecDepth 20000 in
theorem c_slot_0 {l : Launch} {G : pm_G} {fi : Bool} {h : pm_H} {S : gS} {j : Nat} (hl : l.stackTraces = false) (H : gH S h) (hW : gW S) (hj : j < 20) : pm_En l G fi fi 0 0 M_Gr_slot [.ref (0), .int (nI j), .int (0)] h (.inl (some (.int (nI (gK S j 0)))), h) := by
  refine pm_Cn.eq (pm_Cn.of hl (by decide) (Nat.le_of_ble_eq_true rfl) ?_)
  refine px (fun _ => pm_iload_n (pc := 0) d_Gr_slot_0 rfl) ?_
  refine px (fun _ => k_Gr_slot_1 (kc1 := 0) (ks1 := 0) (kc := 0) (ks := 0) (av := [.int (nI j)]) (st := []) (c_isSlot_in hl hj) rfl rfl (Nat.le_of_ble_eq_true rfl)) ?_
  refine pxb (fun _ => pm_if_eq (pc := 4) (tgt := 16) d_Gr_slot_4 (by decide)) (fun c_1 => absurd c_1 (by decide)) (fun c_1 => ?_)
  refine px (fun _ => pm_iload_n (pc := 7) d_Gr_slot_7 rfl) ?_
  refine pxb (fun _ => pm_if_lt (pc := 8) (tgt := 16) d_Gr_slot_8 (by decide)) (fun c_2 => absurd c_2 (by decide)) (fun c_2 => ?_)
  refine px (fun _ => pm_iload_n (pc := 11) d_Gr_slot_11 rfl) ?_
  refine px (fun _ => pm_iconst (v := 3) (pc := 12) d_Gr_slot_12 rfl) ?_
  refine pxb (fun _ => pm_icmp_le (pc := 13) (tgt := 24) d_Gr_slot_13 (by decide)) (fun c_3 => ?_) (fun c_3 => absurd (by decide) c_3)
  refine px (fun _ => pm_iload_n (pc := 24) d_Gr_slot_24 rfl) ?_
  refine pxn (fun _ => pm_if_ne (pc := 25) (tgt := 38) d_Gr_slot_25 (by decide)) (fun c_4 => absurd (by decide) c_4) (fun c_4 => ?_)
  refine px (fun _ => pm_aload_n (pc := 28) d_Gr_slot_28 rfl) ?_
  refine px (fun _ => pm_getf fl_Gr_11 (pc := 29) d_Gr_slot_29 H.1 rfl) ?_
  refine px (fun _ => pm_iload_n (pc := 32) d_Gr_slot_32 rfl) ?_
  obtain ⟨f_5, hf_6, gf_7⟩ := id H.2.1
  refine px (fun _ => pm_aald (kd := 3) (Cn := "GraphRunner$Slot") (j := j) (pc := 33) d_Gr_slot_33 (fun _ => rfl) hf_6 (rfl) (hj) (by decide) (gf_7 j hj)) ?_
  refine px (fun _ => pm_getf fl_Gr_64 (pc := 34) d_Gr_slot_34 (H.2.2.2.2.2.2.1 j hj).1 rfl) ?_
  exact pxr (pm_iret (pc := 37) d_Gr_slot_37 rfl rfl) rfl
set_option maxHeartbeats 4000000 in
set_option maxRecDepth 20000 in
theorem c_slot_1 {l : Launch} {G : pm_G} {fi : Bool} {h : pm_H} {S : gS} {j : Nat} (hl : l.stackTraces = false) (H : gH S h) (hW : gW S) (hj : j < 20) (hc : (gK S j 0 = 1 ∨ gK S j 0 = 2) ∨ gK S j 0 = 3 ∧ gG S 1 = 1) : pm_En l G fi fi 0 0 M_Gr_slot [.ref (0), .int (nI j), .int (1)] h (.inl (some (.int (nI (gT S j 0)))), h) := by
  refine pm_Cn.eq (pm_Cn.of hl (by decide) (Nat.le_of_ble_eq_true rfl) ?_)
  obtain ⟨b1, b2, b3, b4, b5, b6⟩ := id hW
  have bj := b5 j hj
  refine px (fun _ => pm_iload_n (pc := 0) d_Gr_slot_0 rfl) ?_
  refine px (fun _ => k_Gr_slot_1 (kc1 := 0) (ks1 := 0) (kc := 0) (ks := 0) (av := [.int (nI j)]) (st := []) (c_isSlot_in hl hj) rfl rfl (Nat.le_of_ble_eq_true rfl)) ?_
  refine pxb (fun _ => pm_if_eq (pc := 4) (tgt := 16) d_Gr_slot_4 (by decide)) (fun c_1 => absurd c_1 (by decide)) (fun c_1 => ?_)
  refine px (fun _ => pm_iload_n (pc := 7) d_Gr_slot_7 rfl) ?_
  refine pxb (fun _ => pm_if_lt (pc := 8) (tgt := 16) d_Gr_slot_8 (by decide)) (fun c_2 => absurd c_2 (by decide)) (fun c_2 => ?_)
  refine px (fun _ => pm_iload_n (pc := 11) d_Gr_slot_11 rfl) ?_
  refine px (fun _ => pm_iconst (v := 3) (pc := 12) d_Gr_slot_12 rfl) ?_
  refine pxb (fun _ => pm_icmp_le (pc := 13) (tgt := 24) d_Gr_slot_13 (by decide)) (fun c_3 => ?_) (fun c_3 => absurd (by decide) c_3)
  refine px (fun _ => pm_iload_n (pc := 24) d_Gr_slot_24 rfl) ?_
  refine pxn (fun _ => pm_if_ne (pc := 25) (tgt := 38) d_Gr_slot_25 (by decide)) (fun c_4 => ?_) (fun c_4 => absurd c_4 (by decide))
  refine px (fun _ => pm_aload_n (pc := 38) d_Gr_slot_38 rfl) ?_
  refine px (fun _ => pm_iload_n (pc := 39) d_Gr_slot_39 rfl) ?_
  refine px (fun _ => k_Gr_slot_40 (kc1 := 0) (ks1 := 0) (kc := 0) (ks := 0) (av := [.int (nI j)]) (st := []) H.1 (c_isFed hl H hW hj) rfl rfl (Nat.le_of_ble_eq_true rfl)) ?_
  refine pxn (fun _ => pm_if_ne (pc := 43) (tgt := 74) d_Gr_slot_43 (by decide)) (fun c_5 => ?_) (fun c_5 => ?_)
  · have n_c_5 : gK S j 0 = 1 ∨ gK S j 0 = 2 := Decidable.byContradiction fun q => c_5 (g_if0.mpr q)
    refine px (fun _ => pm_aload_n (pc := 74) d_Gr_slot_74 rfl) ?_
    refine px (fun _ => pm_getf fl_Gr_11 (pc := 75) d_Gr_slot_75 H.1 rfl) ?_
    refine px (fun _ => pm_iload_n (pc := 78) d_Gr_slot_78 rfl) ?_
    obtain ⟨f_6, hf_7, gf_8⟩ := id H.2.1
    refine px (fun _ => pm_aald (kd := 3) (Cn := "GraphRunner$Slot") (j := j) (pc := 79) d_Gr_slot_79 (fun _ => rfl) hf_7 (rfl) (hj) (by decide) (gf_8 j hj)) ?_
    refine px (fun _ => pm_getf fl_Gr_67 (pc := 80) d_Gr_slot_80 (H.2.2.2.2.2.2.1 j hj).1 rfl) ?_
    refine px (fun _ => pm_astore_n (lv' := [(3, .ref (8 + 3 * j)), (0, .ref (0)), (1, .int (nI j)), (2, .int (1))]) (pc := 83) d_Gr_slot_83 (by decide) rfl) ?_
    refine px (fun _ => pm_iload_n (pc := 84) d_Gr_slot_84 rfl) ?_
    refine px (fun _ => pm_iconst (v := 1) (pc := 85) d_Gr_slot_85 rfl) ?_
    refine pxn (fun _ => pm_icmp_ne (pc := 86) (tgt := 96) d_Gr_slot_86 (by decide)) (fun c_9 => absurd (by decide) c_9) (fun c_9 => ?_)
    refine px (fun _ => pm_aload_n (pc := 89) d_Gr_slot_89 rfl) ?_
    refine px (fun _ => pm_getf fl_Gr_90 (pc := 90) d_Gr_slot_90 (H.2.2.2.2.2.2.1 j hj).2.1 rfl) ?_
    refine px (fun _ => pm_goto (tgt := 112) (pc := 93) d_Gr_slot_93 (by decide)) ?_
    exact pxr (pm_iret (pc := 112) d_Gr_slot_112 rfl rfl) rfl
  · have n_c_5 : ¬ (gK S j 0 = 1 ∨ gK S j 0 = 2) := g_if0.mp c_5
    refine px (fun _ => pm_aload_n (pc := 46) d_Gr_slot_46 rfl) ?_
    refine px (fun _ => pm_getf fl_Gr_11 (pc := 47) d_Gr_slot_47 H.1 rfl) ?_
    refine px (fun _ => pm_iload_n (pc := 50) d_Gr_slot_50 rfl) ?_
    obtain ⟨f_10, hf_11, gf_12⟩ := id H.2.1
    refine px (fun _ => pm_aald (kd := 3) (Cn := "GraphRunner$Slot") (j := j) (pc := 51) d_Gr_slot_51 (fun _ => rfl) hf_11 (rfl) (hj) (by decide) (gf_12 j hj)) ?_
    refine px (fun _ => pm_getf fl_Gr_64 (pc := 52) d_Gr_slot_52 (H.2.2.2.2.2.2.1 j hj).1 rfl) ?_
    refine px (fun _ => pm_iconst (v := 3) (pc := 55) d_Gr_slot_55 rfl) ?_
    refine pxn (fun _ => pm_icmp_ne (pc := 56) (tgt := 66) d_Gr_slot_56 (by decide)) (fun c_13 => ?_) (fun c_13 => ?_)
    · have n_c_13 : ¬ ((gK S j 0) = 3) := fun zq => c_13 ((nI_eq (a := (gK S j 0)) (b := 3) (by omega) (by omega)).mpr zq)
      exfalso; omega
    · have n_c_13 : (gK S j 0) = 3 := (nI_eq (a := (gK S j 0)) (b := 3) (by omega) (by omega)).mp c_13
      refine px (fun _ => pm_aload_n (pc := 59) d_Gr_slot_59 rfl) ?_
      refine px (fun _ => pm_getf fl_Gr_39 (pc := 60) d_Gr_slot_60 H.1 rfl) ?_
      refine pxn (fun _ => pm_if_ne (pc := 63) (tgt := 74) d_Gr_slot_63 (by decide)) (fun c_14 => ?_) (fun c_14 => ?_)
      · have n_c_14 : ¬ ((gG S 1) = 0) := fun zq => c_14 ((nI_eq (a := (gG S 1)) (b := 0) (by omega) (by omega)).mpr zq)
        refine px (fun _ => pm_aload_n (pc := 74) d_Gr_slot_74 rfl) ?_
        refine px (fun _ => pm_getf fl_Gr_11 (pc := 75) d_Gr_slot_75 H.1 rfl) ?_
        refine px (fun _ => pm_iload_n (pc := 78) d_Gr_slot_78 rfl) ?_
        obtain ⟨f_15, hf_16, gf_17⟩ := id H.2.1
        refine px (fun _ => pm_aald (kd := 3) (Cn := "GraphRunner$Slot") (j := j) (pc := 79) d_Gr_slot_79 (fun _ => rfl) hf_16 (rfl) (hj) (by decide) (gf_17 j hj)) ?_
        refine px (fun _ => pm_getf fl_Gr_67 (pc := 80) d_Gr_slot_80 (H.2.2.2.2.2.2.1 j hj).1 rfl) ?_
        refine px (fun _ => pm_astore_n (lv' := [(3, .ref (8 + 3 * j)), (0, .ref (0)), (1, .int (nI j)), (2, .int (1))]) (pc := 83) d_Gr_slot_83 (by decide) rfl) ?_
        refine px (fun _ => pm_iload_n (pc := 84) d_Gr_slot_84 rfl) ?_
        refine px (fun _ => pm_iconst (v := 1) (pc := 85) d_Gr_slot_85 rfl) ?_
        refine pxn (fun _ => pm_icmp_ne (pc := 86) (tgt := 96) d_Gr_slot_86 (by decide)) (fun c_18 => absurd (by decide) c_18) (fun c_18 => ?_)
        refine px (fun _ => pm_aload_n (pc := 89) d_Gr_slot_89 rfl) ?_
        refine px (fun _ => pm_getf fl_Gr_90 (pc := 90) d_Gr_slot_90 (H.2.2.2.2.2.2.1 j hj).2.1 rfl) ?_
        refine px (fun _ => pm_goto (tgt := 112) (pc := 93) d_Gr_slot_93 (by decide)) ?_
        exact pxr (pm_iret (pc := 112) d_Gr_slot_112 rfl rfl) rfl
      · have n_c_14 : (gG S 1) = 0 := (nI_eq (a := (gG S 1)) (b := 0) (by omega) (by omega)).mp c_14
        exfalso; omega
set_option maxHeartbeats 4000000 in
set_option maxRecDepth 20000 in
theorem c_slot_m1 {l : Launch} {G : pm_G} {fi : Bool} {h : pm_H} {S : gS} {j : Nat} (hl : l.stackTraces = false) (H : gH S h) (hW : gW S) (hj : j < 20) (hc : ¬ ((gK S j 0 = 1 ∨ gK S j 0 = 2) ∨ gK S j 0 = 3 ∧ gG S 1 = 1)) : pm_En l G fi false 1 6 M_Gr_slot [.ref (0), .int (nI j), .int (1)] h (.inr "java/util/NoSuchElementException", h) := by
  refine pm_Cn.eq (pm_Cn.of hl (by decide) (Nat.le_of_ble_eq_true rfl) ?_)
  obtain ⟨b1, b2, b3, b4, b5, b6⟩ := id hW
  have bj := b5 j hj
  refine px (fun _ => pm_iload_n (pc := 0) d_Gr_slot_0 rfl) ?_
  refine px (fun _ => k_Gr_slot_1 (kc1 := 0) (ks1 := 0) (kc := 1) (ks := 6) (av := [.int (nI j)]) (st := []) (c_isSlot_in hl hj) rfl rfl (Nat.le_of_ble_eq_true rfl)) ?_
  refine pxb (fun _ => pm_if_eq (pc := 4) (tgt := 16) d_Gr_slot_4 (by decide)) (fun c_1 => absurd c_1 (by decide)) (fun c_1 => ?_)
  refine px (fun _ => pm_iload_n (pc := 7) d_Gr_slot_7 rfl) ?_
  refine pxb (fun _ => pm_if_lt (pc := 8) (tgt := 16) d_Gr_slot_8 (by decide)) (fun c_2 => absurd c_2 (by decide)) (fun c_2 => ?_)
  refine px (fun _ => pm_iload_n (pc := 11) d_Gr_slot_11 rfl) ?_
  refine px (fun _ => pm_iconst (v := 3) (pc := 12) d_Gr_slot_12 rfl) ?_
  refine pxb (fun _ => pm_icmp_le (pc := 13) (tgt := 24) d_Gr_slot_13 (by decide)) (fun c_3 => ?_) (fun c_3 => absurd (by decide) c_3)
  refine px (fun _ => pm_iload_n (pc := 24) d_Gr_slot_24 rfl) ?_
  refine pxn (fun _ => pm_if_ne (pc := 25) (tgt := 38) d_Gr_slot_25 (by decide)) (fun c_4 => ?_) (fun c_4 => absurd c_4 (by decide))
  refine px (fun _ => pm_aload_n (pc := 38) d_Gr_slot_38 rfl) ?_
  refine px (fun _ => pm_iload_n (pc := 39) d_Gr_slot_39 rfl) ?_
  refine px (fun _ => k_Gr_slot_40 (kc1 := 0) (ks1 := 0) (kc := 1) (ks := 6) (av := [.int (nI j)]) (st := []) H.1 (c_isFed hl H hW hj) rfl rfl (Nat.le_of_ble_eq_true rfl)) ?_
  refine pxn (fun _ => pm_if_ne (pc := 43) (tgt := 74) d_Gr_slot_43 (by decide)) (fun c_5 => ?_) (fun c_5 => ?_)
  · have n_c_5 : gK S j 0 = 1 ∨ gK S j 0 = 2 := Decidable.byContradiction fun q => c_5 (g_if0.mpr q)
    exfalso; omega
  · have n_c_5 : ¬ (gK S j 0 = 1 ∨ gK S j 0 = 2) := g_if0.mp c_5
    refine px (fun _ => pm_aload_n (pc := 46) d_Gr_slot_46 rfl) ?_
    refine px (fun _ => pm_getf fl_Gr_11 (pc := 47) d_Gr_slot_47 H.1 rfl) ?_
    refine px (fun _ => pm_iload_n (pc := 50) d_Gr_slot_50 rfl) ?_
    obtain ⟨f_6, hf_7, gf_8⟩ := id H.2.1
    refine px (fun _ => pm_aald (kd := 3) (Cn := "GraphRunner$Slot") (j := j) (pc := 51) d_Gr_slot_51 (fun _ => rfl) hf_7 (rfl) (hj) (by decide) (gf_8 j hj)) ?_
    refine px (fun _ => pm_getf fl_Gr_64 (pc := 52) d_Gr_slot_52 (H.2.2.2.2.2.2.1 j hj).1 rfl) ?_
    refine px (fun _ => pm_iconst (v := 3) (pc := 55) d_Gr_slot_55 rfl) ?_
    refine pxn (fun _ => pm_icmp_ne (pc := 56) (tgt := 66) d_Gr_slot_56 (by decide)) (fun c_9 => ?_) (fun c_9 => ?_)
    · have n_c_9 : ¬ ((gK S j 0) = 3) := fun zq => c_9 ((nI_eq (a := (gK S j 0)) (b := 3) (by omega) (by omega)).mpr zq)
      exact pxr x_Gr_slot_66 rfl
    · have n_c_9 : (gK S j 0) = 3 := (nI_eq (a := (gK S j 0)) (b := 3) (by omega) (by omega)).mp c_9
      refine px (fun _ => pm_aload_n (pc := 59) d_Gr_slot_59 rfl) ?_
      refine px (fun _ => pm_getf fl_Gr_39 (pc := 60) d_Gr_slot_60 H.1 rfl) ?_
      refine pxn (fun _ => pm_if_ne (pc := 63) (tgt := 74) d_Gr_slot_63 (by decide)) (fun c_10 => ?_) (fun c_10 => ?_)
      · have n_c_10 : ¬ ((gG S 1) = 0) := fun zq => c_10 ((nI_eq (a := (gG S 1)) (b := 0) (by omega) (by omega)).mpr zq)
        exfalso; omega
      · have n_c_10 : (gG S 1) = 0 := (nI_eq (a := (gG S 1)) (b := 0) (by omega) (by omega)).mp c_10
        exact pxr x_Gr_slot_66 rfl
set_option maxHeartbeats 4000000 in
set_option maxRecDepth 20000 in
theorem c_slot_2 {l : Launch} {G : pm_G} {fi : Bool} {h : pm_H} {S : gS} {j : Nat} (hl : l.stackTraces = false) (H : gH S h) (hW : gW S) (hj : j < 20) (hc : (gK S j 0 = 1 ∨ gK S j 0 = 2) ∨ gK S j 0 = 3 ∧ gG S 1 = 1) : pm_En l G fi fi 0 0 M_Gr_slot [.ref (0), .int (nI j), .int (2)] h (.inl (some (.int (nI (gT S j 1)))), h) := by
  refine pm_Cn.eq (pm_Cn.of hl (by decide) (Nat.le_of_ble_eq_true rfl) ?_)
  obtain ⟨b1, b2, b3, b4, b5, b6⟩ := id hW
  have bj := b5 j hj
  refine px (fun _ => pm_iload_n (pc := 0) d_Gr_slot_0 rfl) ?_
  refine px (fun _ => k_Gr_slot_1 (kc1 := 0) (ks1 := 0) (kc := 0) (ks := 0) (av := [.int (nI j)]) (st := []) (c_isSlot_in hl hj) rfl rfl (Nat.le_of_ble_eq_true rfl)) ?_
  refine pxb (fun _ => pm_if_eq (pc := 4) (tgt := 16) d_Gr_slot_4 (by decide)) (fun c_1 => absurd c_1 (by decide)) (fun c_1 => ?_)
  refine px (fun _ => pm_iload_n (pc := 7) d_Gr_slot_7 rfl) ?_
  refine pxb (fun _ => pm_if_lt (pc := 8) (tgt := 16) d_Gr_slot_8 (by decide)) (fun c_2 => absurd c_2 (by decide)) (fun c_2 => ?_)
  refine px (fun _ => pm_iload_n (pc := 11) d_Gr_slot_11 rfl) ?_
  refine px (fun _ => pm_iconst (v := 3) (pc := 12) d_Gr_slot_12 rfl) ?_
  refine pxb (fun _ => pm_icmp_le (pc := 13) (tgt := 24) d_Gr_slot_13 (by decide)) (fun c_3 => ?_) (fun c_3 => absurd (by decide) c_3)
  refine px (fun _ => pm_iload_n (pc := 24) d_Gr_slot_24 rfl) ?_
  refine pxn (fun _ => pm_if_ne (pc := 25) (tgt := 38) d_Gr_slot_25 (by decide)) (fun c_4 => ?_) (fun c_4 => absurd c_4 (by decide))
  refine px (fun _ => pm_aload_n (pc := 38) d_Gr_slot_38 rfl) ?_
  refine px (fun _ => pm_iload_n (pc := 39) d_Gr_slot_39 rfl) ?_
  refine px (fun _ => k_Gr_slot_40 (kc1 := 0) (ks1 := 0) (kc := 0) (ks := 0) (av := [.int (nI j)]) (st := []) H.1 (c_isFed hl H hW hj) rfl rfl (Nat.le_of_ble_eq_true rfl)) ?_
  refine pxn (fun _ => pm_if_ne (pc := 43) (tgt := 74) d_Gr_slot_43 (by decide)) (fun c_5 => ?_) (fun c_5 => ?_)
  · have n_c_5 : gK S j 0 = 1 ∨ gK S j 0 = 2 := Decidable.byContradiction fun q => c_5 (g_if0.mpr q)
    refine px (fun _ => pm_aload_n (pc := 74) d_Gr_slot_74 rfl) ?_
    refine px (fun _ => pm_getf fl_Gr_11 (pc := 75) d_Gr_slot_75 H.1 rfl) ?_
    refine px (fun _ => pm_iload_n (pc := 78) d_Gr_slot_78 rfl) ?_
    obtain ⟨f_6, hf_7, gf_8⟩ := id H.2.1
    refine px (fun _ => pm_aald (kd := 3) (Cn := "GraphRunner$Slot") (j := j) (pc := 79) d_Gr_slot_79 (fun _ => rfl) hf_7 (rfl) (hj) (by decide) (gf_8 j hj)) ?_
    refine px (fun _ => pm_getf fl_Gr_67 (pc := 80) d_Gr_slot_80 (H.2.2.2.2.2.2.1 j hj).1 rfl) ?_
    refine px (fun _ => pm_astore_n (lv' := [(3, .ref (8 + 3 * j)), (0, .ref (0)), (1, .int (nI j)), (2, .int (2))]) (pc := 83) d_Gr_slot_83 (by decide) rfl) ?_
    refine px (fun _ => pm_iload_n (pc := 84) d_Gr_slot_84 rfl) ?_
    refine px (fun _ => pm_iconst (v := 1) (pc := 85) d_Gr_slot_85 rfl) ?_
    refine pxn (fun _ => pm_icmp_ne (pc := 86) (tgt := 96) d_Gr_slot_86 (by decide)) (fun c_9 => ?_) (fun c_9 => absurd c_9 (by decide))
    refine px (fun _ => pm_iload_n (pc := 96) d_Gr_slot_96 rfl) ?_
    refine px (fun _ => pm_iconst (v := 2) (pc := 97) d_Gr_slot_97 rfl) ?_
    refine pxn (fun _ => pm_icmp_ne (pc := 98) (tgt := 108) d_Gr_slot_98 (by decide)) (fun c_10 => absurd (by decide) c_10) (fun c_10 => ?_)
    refine px (fun _ => pm_aload_n (pc := 101) d_Gr_slot_101 rfl) ?_
    refine px (fun _ => pm_getf fl_Gr_168 (pc := 102) d_Gr_slot_102 (H.2.2.2.2.2.2.1 j hj).2.1 rfl) ?_
    refine px (fun _ => pm_goto (tgt := 112) (pc := 105) d_Gr_slot_105 (by decide)) ?_
    exact pxr (pm_iret (pc := 112) d_Gr_slot_112 rfl rfl) rfl
  · have n_c_5 : ¬ (gK S j 0 = 1 ∨ gK S j 0 = 2) := g_if0.mp c_5
    refine px (fun _ => pm_aload_n (pc := 46) d_Gr_slot_46 rfl) ?_
    refine px (fun _ => pm_getf fl_Gr_11 (pc := 47) d_Gr_slot_47 H.1 rfl) ?_
    refine px (fun _ => pm_iload_n (pc := 50) d_Gr_slot_50 rfl) ?_
    obtain ⟨f_11, hf_12, gf_13⟩ := id H.2.1
    refine px (fun _ => pm_aald (kd := 3) (Cn := "GraphRunner$Slot") (j := j) (pc := 51) d_Gr_slot_51 (fun _ => rfl) hf_12 (rfl) (hj) (by decide) (gf_13 j hj)) ?_
    refine px (fun _ => pm_getf fl_Gr_64 (pc := 52) d_Gr_slot_52 (H.2.2.2.2.2.2.1 j hj).1 rfl) ?_
    refine px (fun _ => pm_iconst (v := 3) (pc := 55) d_Gr_slot_55 rfl) ?_
    refine pxn (fun _ => pm_icmp_ne (pc := 56) (tgt := 66) d_Gr_slot_56 (by decide)) (fun c_14 => ?_) (fun c_14 => ?_)
    · have n_c_14 : ¬ ((gK S j 0) = 3) := fun zq => c_14 ((nI_eq (a := (gK S j 0)) (b := 3) (by omega) (by omega)).mpr zq)
      exfalso; omega
    · have n_c_14 : (gK S j 0) = 3 := (nI_eq (a := (gK S j 0)) (b := 3) (by omega) (by omega)).mp c_14
      refine px (fun _ => pm_aload_n (pc := 59) d_Gr_slot_59 rfl) ?_
      refine px (fun _ => pm_getf fl_Gr_39 (pc := 60) d_Gr_slot_60 H.1 rfl) ?_
      refine pxn (fun _ => pm_if_ne (pc := 63) (tgt := 74) d_Gr_slot_63 (by decide)) (fun c_15 => ?_) (fun c_15 => ?_)
      · have n_c_15 : ¬ ((gG S 1) = 0) := fun zq => c_15 ((nI_eq (a := (gG S 1)) (b := 0) (by omega) (by omega)).mpr zq)
        refine px (fun _ => pm_aload_n (pc := 74) d_Gr_slot_74 rfl) ?_
        refine px (fun _ => pm_getf fl_Gr_11 (pc := 75) d_Gr_slot_75 H.1 rfl) ?_
        refine px (fun _ => pm_iload_n (pc := 78) d_Gr_slot_78 rfl) ?_
        obtain ⟨f_16, hf_17, gf_18⟩ := id H.2.1
        refine px (fun _ => pm_aald (kd := 3) (Cn := "GraphRunner$Slot") (j := j) (pc := 79) d_Gr_slot_79 (fun _ => rfl) hf_17 (rfl) (hj) (by decide) (gf_18 j hj)) ?_
        refine px (fun _ => pm_getf fl_Gr_67 (pc := 80) d_Gr_slot_80 (H.2.2.2.2.2.2.1 j hj).1 rfl) ?_
        refine px (fun _ => pm_astore_n (lv' := [(3, .ref (8 + 3 * j)), (0, .ref (0)), (1, .int (nI j)), (2, .int (2))]) (pc := 83) d_Gr_slot_83 (by decide) rfl) ?_
        refine px (fun _ => pm_iload_n (pc := 84) d_Gr_slot_84 rfl) ?_
        refine px (fun _ => pm_iconst (v := 1) (pc := 85) d_Gr_slot_85 rfl) ?_
        refine pxn (fun _ => pm_icmp_ne (pc := 86) (tgt := 96) d_Gr_slot_86 (by decide)) (fun c_19 => ?_) (fun c_19 => absurd c_19 (by decide))
        refine px (fun _ => pm_iload_n (pc := 96) d_Gr_slot_96 rfl) ?_
        refine px (fun _ => pm_iconst (v := 2) (pc := 97) d_Gr_slot_97 rfl) ?_
        refine pxn (fun _ => pm_icmp_ne (pc := 98) (tgt := 108) d_Gr_slot_98 (by decide)) (fun c_20 => absurd (by decide) c_20) (fun c_20 => ?_)
        refine px (fun _ => pm_aload_n (pc := 101) d_Gr_slot_101 rfl) ?_
        refine px (fun _ => pm_getf fl_Gr_168 (pc := 102) d_Gr_slot_102 (H.2.2.2.2.2.2.1 j hj).2.1 rfl) ?_
        refine px (fun _ => pm_goto (tgt := 112) (pc := 105) d_Gr_slot_105 (by decide)) ?_
        exact pxr (pm_iret (pc := 112) d_Gr_slot_112 rfl rfl) rfl
      · have n_c_15 : (gG S 1) = 0 := (nI_eq (a := (gG S 1)) (b := 0) (by omega) (by omega)).mp c_15
        exfalso; omega
set_option maxHeartbeats 4000000 in
set_option maxRecDepth 20000 in
theorem c_slot_m2 {l : Launch} {G : pm_G} {fi : Bool} {h : pm_H} {S : gS} {j : Nat} (hl : l.stackTraces = false) (H : gH S h) (hW : gW S) (hj : j < 20) (hc : ¬ ((gK S j 0 = 1 ∨ gK S j 0 = 2) ∨ gK S j 0 = 3 ∧ gG S 1 = 1)) : pm_En l G fi false 1 6 M_Gr_slot [.ref (0), .int (nI j), .int (2)] h (.inr "java/util/NoSuchElementException", h) := by
  refine pm_Cn.eq (pm_Cn.of hl (by decide) (Nat.le_of_ble_eq_true rfl) ?_)
  obtain ⟨b1, b2, b3, b4, b5, b6⟩ := id hW
  have bj := b5 j hj
  refine px (fun _ => pm_iload_n (pc := 0) d_Gr_slot_0 rfl) ?_
  refine px (fun _ => k_Gr_slot_1 (kc1 := 0) (ks1 := 0) (kc := 1) (ks := 6) (av := [.int (nI j)]) (st := []) (c_isSlot_in hl hj) rfl rfl (Nat.le_of_ble_eq_true rfl)) ?_
  refine pxb (fun _ => pm_if_eq (pc := 4) (tgt := 16) d_Gr_slot_4 (by decide)) (fun c_1 => absurd c_1 (by decide)) (fun c_1 => ?_)
  refine px (fun _ => pm_iload_n (pc := 7) d_Gr_slot_7 rfl) ?_
  refine pxb (fun _ => pm_if_lt (pc := 8) (tgt := 16) d_Gr_slot_8 (by decide)) (fun c_2 => absurd c_2 (by decide)) (fun c_2 => ?_)
  refine px (fun _ => pm_iload_n (pc := 11) d_Gr_slot_11 rfl) ?_
  refine px (fun _ => pm_iconst (v := 3) (pc := 12) d_Gr_slot_12 rfl) ?_
  refine pxb (fun _ => pm_icmp_le (pc := 13) (tgt := 24) d_Gr_slot_13 (by decide)) (fun c_3 => ?_) (fun c_3 => absurd (by decide) c_3)
  refine px (fun _ => pm_iload_n (pc := 24) d_Gr_slot_24 rfl) ?_
  refine pxn (fun _ => pm_if_ne (pc := 25) (tgt := 38) d_Gr_slot_25 (by decide)) (fun c_4 => ?_) (fun c_4 => absurd c_4 (by decide))
  refine px (fun _ => pm_aload_n (pc := 38) d_Gr_slot_38 rfl) ?_
  refine px (fun _ => pm_iload_n (pc := 39) d_Gr_slot_39 rfl) ?_
  refine px (fun _ => k_Gr_slot_40 (kc1 := 0) (ks1 := 0) (kc := 1) (ks := 6) (av := [.int (nI j)]) (st := []) H.1 (c_isFed hl H hW hj) rfl rfl (Nat.le_of_ble_eq_true rfl)) ?_
  refine pxn (fun _ => pm_if_ne (pc := 43) (tgt := 74) d_Gr_slot_43 (by decide)) (fun c_5 => ?_) (fun c_5 => ?_)
  · have n_c_5 : gK S j 0 = 1 ∨ gK S j 0 = 2 := Decidable.byContradiction fun q => c_5 (g_if0.mpr q)
    exfalso; omega
  · have n_c_5 : ¬ (gK S j 0 = 1 ∨ gK S j 0 = 2) := g_if0.mp c_5
    refine px (fun _ => pm_aload_n (pc := 46) d_Gr_slot_46 rfl) ?_
    refine px (fun _ => pm_getf fl_Gr_11 (pc := 47) d_Gr_slot_47 H.1 rfl) ?_
    refine px (fun _ => pm_iload_n (pc := 50) d_Gr_slot_50 rfl) ?_
    obtain ⟨f_6, hf_7, gf_8⟩ := id H.2.1
    refine px (fun _ => pm_aald (kd := 3) (Cn := "GraphRunner$Slot") (j := j) (pc := 51) d_Gr_slot_51 (fun _ => rfl) hf_7 (rfl) (hj) (by decide) (gf_8 j hj)) ?_
    refine px (fun _ => pm_getf fl_Gr_64 (pc := 52) d_Gr_slot_52 (H.2.2.2.2.2.2.1 j hj).1 rfl) ?_
    refine px (fun _ => pm_iconst (v := 3) (pc := 55) d_Gr_slot_55 rfl) ?_
    refine pxn (fun _ => pm_icmp_ne (pc := 56) (tgt := 66) d_Gr_slot_56 (by decide)) (fun c_9 => ?_) (fun c_9 => ?_)
    · have n_c_9 : ¬ ((gK S j 0) = 3) := fun zq => c_9 ((nI_eq (a := (gK S j 0)) (b := 3) (by omega) (by omega)).mpr zq)
      exact pxr x_Gr_slot_66 rfl
    · have n_c_9 : (gK S j 0) = 3 := (nI_eq (a := (gK S j 0)) (b := 3) (by omega) (by omega)).mp c_9
      refine px (fun _ => pm_aload_n (pc := 59) d_Gr_slot_59 rfl) ?_
      refine px (fun _ => pm_getf fl_Gr_39 (pc := 60) d_Gr_slot_60 H.1 rfl) ?_
      refine pxn (fun _ => pm_if_ne (pc := 63) (tgt := 74) d_Gr_slot_63 (by decide)) (fun c_10 => ?_) (fun c_10 => ?_)
      · have n_c_10 : ¬ ((gG S 1) = 0) := fun zq => c_10 ((nI_eq (a := (gG S 1)) (b := 0) (by omega) (by omega)).mpr zq)
        exfalso; omega
      · have n_c_10 : (gG S 1) = 0 := (nI_eq (a := (gG S 1)) (b := 0) (by omega) (by omega)).mp c_10
        exact pxr x_Gr_slot_66 rfl
set_option maxHeartbeats 4000000 in
set_option maxRecDepth 20000 in
theorem c_slot_3 {l : Launch} {G : pm_G} {fi : Bool} {h : pm_H} {S : gS} {j : Nat} (hl : l.stackTraces = false) (H : gH S h) (hW : gW S) (hj : j < 20) (hc : (gK S j 0 = 1 ∨ gK S j 0 = 2) ∨ gK S j 0 = 3 ∧ gG S 1 = 1) : pm_En l G fi fi 0 0 M_Gr_slot [.ref (0), .int (nI j), .int (3)] h (.inl (some (.int (nI (gT S j 2)))), h) := by
  refine pm_Cn.eq (pm_Cn.of hl (by decide) (Nat.le_of_ble_eq_true rfl) ?_)
  obtain ⟨b1, b2, b3, b4, b5, b6⟩ := id hW
  have bj := b5 j hj
  refine px (fun _ => pm_iload_n (pc := 0) d_Gr_slot_0 rfl) ?_
  refine px (fun _ => k_Gr_slot_1 (kc1 := 0) (ks1 := 0) (kc := 0) (ks := 0) (av := [.int (nI j)]) (st := []) (c_isSlot_in hl hj) rfl rfl (Nat.le_of_ble_eq_true rfl)) ?_
  refine pxb (fun _ => pm_if_eq (pc := 4) (tgt := 16) d_Gr_slot_4 (by decide)) (fun c_1 => absurd c_1 (by decide)) (fun c_1 => ?_)
  refine px (fun _ => pm_iload_n (pc := 7) d_Gr_slot_7 rfl) ?_
  refine pxb (fun _ => pm_if_lt (pc := 8) (tgt := 16) d_Gr_slot_8 (by decide)) (fun c_2 => absurd c_2 (by decide)) (fun c_2 => ?_)
  refine px (fun _ => pm_iload_n (pc := 11) d_Gr_slot_11 rfl) ?_
  refine px (fun _ => pm_iconst (v := 3) (pc := 12) d_Gr_slot_12 rfl) ?_
  refine pxb (fun _ => pm_icmp_le (pc := 13) (tgt := 24) d_Gr_slot_13 (by decide)) (fun c_3 => ?_) (fun c_3 => absurd (by decide) c_3)
  refine px (fun _ => pm_iload_n (pc := 24) d_Gr_slot_24 rfl) ?_
  refine pxn (fun _ => pm_if_ne (pc := 25) (tgt := 38) d_Gr_slot_25 (by decide)) (fun c_4 => ?_) (fun c_4 => absurd c_4 (by decide))
  refine px (fun _ => pm_aload_n (pc := 38) d_Gr_slot_38 rfl) ?_
  refine px (fun _ => pm_iload_n (pc := 39) d_Gr_slot_39 rfl) ?_
  refine px (fun _ => k_Gr_slot_40 (kc1 := 0) (ks1 := 0) (kc := 0) (ks := 0) (av := [.int (nI j)]) (st := []) H.1 (c_isFed hl H hW hj) rfl rfl (Nat.le_of_ble_eq_true rfl)) ?_
  refine pxn (fun _ => pm_if_ne (pc := 43) (tgt := 74) d_Gr_slot_43 (by decide)) (fun c_5 => ?_) (fun c_5 => ?_)
  · have n_c_5 : gK S j 0 = 1 ∨ gK S j 0 = 2 := Decidable.byContradiction fun q => c_5 (g_if0.mpr q)
    refine px (fun _ => pm_aload_n (pc := 74) d_Gr_slot_74 rfl) ?_
    refine px (fun _ => pm_getf fl_Gr_11 (pc := 75) d_Gr_slot_75 H.1 rfl) ?_
    refine px (fun _ => pm_iload_n (pc := 78) d_Gr_slot_78 rfl) ?_
    obtain ⟨f_6, hf_7, gf_8⟩ := id H.2.1
    refine px (fun _ => pm_aald (kd := 3) (Cn := "GraphRunner$Slot") (j := j) (pc := 79) d_Gr_slot_79 (fun _ => rfl) hf_7 (rfl) (hj) (by decide) (gf_8 j hj)) ?_
    refine px (fun _ => pm_getf fl_Gr_67 (pc := 80) d_Gr_slot_80 (H.2.2.2.2.2.2.1 j hj).1 rfl) ?_
    refine px (fun _ => pm_astore_n (lv' := [(3, .ref (8 + 3 * j)), (0, .ref (0)), (1, .int (nI j)), (2, .int (3))]) (pc := 83) d_Gr_slot_83 (by decide) rfl) ?_
    refine px (fun _ => pm_iload_n (pc := 84) d_Gr_slot_84 rfl) ?_
    refine px (fun _ => pm_iconst (v := 1) (pc := 85) d_Gr_slot_85 rfl) ?_
    refine pxn (fun _ => pm_icmp_ne (pc := 86) (tgt := 96) d_Gr_slot_86 (by decide)) (fun c_9 => ?_) (fun c_9 => absurd c_9 (by decide))
    refine px (fun _ => pm_iload_n (pc := 96) d_Gr_slot_96 rfl) ?_
    refine px (fun _ => pm_iconst (v := 2) (pc := 97) d_Gr_slot_97 rfl) ?_
    refine pxn (fun _ => pm_icmp_ne (pc := 98) (tgt := 108) d_Gr_slot_98 (by decide)) (fun c_10 => ?_) (fun c_10 => absurd c_10 (by decide))
    refine px (fun _ => pm_aload_n (pc := 108) d_Gr_slot_108 rfl) ?_
    refine px (fun _ => pm_getf fl_Gr_171 (pc := 109) d_Gr_slot_109 (H.2.2.2.2.2.2.1 j hj).2.1 rfl) ?_
    exact pxr (pm_iret (pc := 112) d_Gr_slot_112 rfl rfl) rfl
  · have n_c_5 : ¬ (gK S j 0 = 1 ∨ gK S j 0 = 2) := g_if0.mp c_5
    refine px (fun _ => pm_aload_n (pc := 46) d_Gr_slot_46 rfl) ?_
    refine px (fun _ => pm_getf fl_Gr_11 (pc := 47) d_Gr_slot_47 H.1 rfl) ?_
    refine px (fun _ => pm_iload_n (pc := 50) d_Gr_slot_50 rfl) ?_
    obtain ⟨f_11, hf_12, gf_13⟩ := id H.2.1
    refine px (fun _ => pm_aald (kd := 3) (Cn := "GraphRunner$Slot") (j := j) (pc := 51) d_Gr_slot_51 (fun _ => rfl) hf_12 (rfl) (hj) (by decide) (gf_13 j hj)) ?_
    refine px (fun _ => pm_getf fl_Gr_64 (pc := 52) d_Gr_slot_52 (H.2.2.2.2.2.2.1 j hj).1 rfl) ?_
    refine px (fun _ => pm_iconst (v := 3) (pc := 55) d_Gr_slot_55 rfl) ?_
    refine pxn (fun _ => pm_icmp_ne (pc := 56) (tgt := 66) d_Gr_slot_56 (by decide)) (fun c_14 => ?_) (fun c_14 => ?_)
    · have n_c_14 : ¬ ((gK S j 0) = 3) := fun zq => c_14 ((nI_eq (a := (gK S j 0)) (b := 3) (by omega) (by omega)).mpr zq)
      exfalso; omega
    · have n_c_14 : (gK S j 0) = 3 := (nI_eq (a := (gK S j 0)) (b := 3) (by omega) (by omega)).mp c_14
      refine px (fun _ => pm_aload_n (pc := 59) d_Gr_slot_59 rfl) ?_
      refine px (fun _ => pm_getf fl_Gr_39 (pc := 60) d_Gr_slot_60 H.1 rfl) ?_
      refine pxn (fun _ => pm_if_ne (pc := 63) (tgt := 74) d_Gr_slot_63 (by decide)) (fun c_15 => ?_) (fun c_15 => ?_)
      · have n_c_15 : ¬ ((gG S 1) = 0) := fun zq => c_15 ((nI_eq (a := (gG S 1)) (b := 0) (by omega) (by omega)).mpr zq)
        refine px (fun _ => pm_aload_n (pc := 74) d_Gr_slot_74 rfl) ?_
        refine px (fun _ => pm_getf fl_Gr_11 (pc := 75) d_Gr_slot_75 H.1 rfl) ?_
        refine px (fun _ => pm_iload_n (pc := 78) d_Gr_slot_78 rfl) ?_
        obtain ⟨f_16, hf_17, gf_18⟩ := id H.2.1
        refine px (fun _ => pm_aald (kd := 3) (Cn := "GraphRunner$Slot") (j := j) (pc := 79) d_Gr_slot_79 (fun _ => rfl) hf_17 (rfl) (hj) (by decide) (gf_18 j hj)) ?_
        refine px (fun _ => pm_getf fl_Gr_67 (pc := 80) d_Gr_slot_80 (H.2.2.2.2.2.2.1 j hj).1 rfl) ?_
        refine px (fun _ => pm_astore_n (lv' := [(3, .ref (8 + 3 * j)), (0, .ref (0)), (1, .int (nI j)), (2, .int (3))]) (pc := 83) d_Gr_slot_83 (by decide) rfl) ?_
        refine px (fun _ => pm_iload_n (pc := 84) d_Gr_slot_84 rfl) ?_
        refine px (fun _ => pm_iconst (v := 1) (pc := 85) d_Gr_slot_85 rfl) ?_
        refine pxn (fun _ => pm_icmp_ne (pc := 86) (tgt := 96) d_Gr_slot_86 (by decide)) (fun c_19 => ?_) (fun c_19 => absurd c_19 (by decide))
        refine px (fun _ => pm_iload_n (pc := 96) d_Gr_slot_96 rfl) ?_
        refine px (fun _ => pm_iconst (v := 2) (pc := 97) d_Gr_slot_97 rfl) ?_
        refine pxn (fun _ => pm_icmp_ne (pc := 98) (tgt := 108) d_Gr_slot_98 (by decide)) (fun c_20 => ?_) (fun c_20 => absurd c_20 (by decide))
        refine px (fun _ => pm_aload_n (pc := 108) d_Gr_slot_108 rfl) ?_
        refine px (fun _ => pm_getf fl_Gr_171 (pc := 109) d_Gr_slot_109 (H.2.2.2.2.2.2.1 j hj).2.1 rfl) ?_
        exact pxr (pm_iret (pc := 112) d_Gr_slot_112 rfl rfl) rfl
      · have n_c_15 : (gG S 1) = 0 := (nI_eq (a := (gG S 1)) (b := 0) (by omega) (by omega)).mp c_15
        exfalso; omega
set_option maxHeartbeats 4000000 in
set_option maxRecDepth 20000 in
theorem c_slot_m3 {l : Launch} {G : pm_G} {fi : Bool} {h : pm_H} {S : gS} {j : Nat} (hl : l.stackTraces = false) (H : gH S h) (hW : gW S) (hj : j < 20) (hc : ¬ ((gK S j 0 = 1 ∨ gK S j 0 = 2) ∨ gK S j 0 = 3 ∧ gG S 1 = 1)) : pm_En l G fi false 1 6 M_Gr_slot [.ref (0), .int (nI j), .int (3)] h (.inr "java/util/NoSuchElementException", h) := by
  refine pm_Cn.eq (pm_Cn.of hl (by decide) (Nat.le_of_ble_eq_true rfl) ?_)
  obtain ⟨b1, b2, b3, b4, b5, b6⟩ := id hW
  have bj := b5 j hj
  refine px (fun _ => pm_iload_n (pc := 0) d_Gr_slot_0 rfl) ?_
  refine px (fun _ => k_Gr_slot_1 (kc1 := 0) (ks1 := 0) (kc := 1) (ks := 6) (av := [.int (nI j)]) (st := []) (c_isSlot_in hl hj) rfl rfl (Nat.le_of_ble_eq_true rfl)) ?_
  refine pxb (fun _ => pm_if_eq (pc := 4) (tgt := 16) d_Gr_slot_4 (by decide)) (fun c_1 => absurd c_1 (by decide)) (fun c_1 => ?_)
  refine px (fun _ => pm_iload_n (pc := 7) d_Gr_slot_7 rfl) ?_
  refine pxb (fun _ => pm_if_lt (pc := 8) (tgt := 16) d_Gr_slot_8 (by decide)) (fun c_2 => absurd c_2 (by decide)) (fun c_2 => ?_)
  refine px (fun _ => pm_iload_n (pc := 11) d_Gr_slot_11 rfl) ?_
  refine px (fun _ => pm_iconst (v := 3) (pc := 12) d_Gr_slot_12 rfl) ?_
  refine pxb (fun _ => pm_icmp_le (pc := 13) (tgt := 24) d_Gr_slot_13 (by decide)) (fun c_3 => ?_) (fun c_3 => absurd (by decide) c_3)
  refine px (fun _ => pm_iload_n (pc := 24) d_Gr_slot_24 rfl) ?_
  refine pxn (fun _ => pm_if_ne (pc := 25) (tgt := 38) d_Gr_slot_25 (by decide)) (fun c_4 => ?_) (fun c_4 => absurd c_4 (by decide))
  refine px (fun _ => pm_aload_n (pc := 38) d_Gr_slot_38 rfl) ?_
  refine px (fun _ => pm_iload_n (pc := 39) d_Gr_slot_39 rfl) ?_
  refine px (fun _ => k_Gr_slot_40 (kc1 := 0) (ks1 := 0) (kc := 1) (ks := 6) (av := [.int (nI j)]) (st := []) H.1 (c_isFed hl H hW hj) rfl rfl (Nat.le_of_ble_eq_true rfl)) ?_
  refine pxn (fun _ => pm_if_ne (pc := 43) (tgt := 74) d_Gr_slot_43 (by decide)) (fun c_5 => ?_) (fun c_5 => ?_)
  · have n_c_5 : gK S j 0 = 1 ∨ gK S j 0 = 2 := Decidable.byContradiction fun q => c_5 (g_if0.mpr q)
    exfalso; omega
  · have n_c_5 : ¬ (gK S j 0 = 1 ∨ gK S j 0 = 2) := g_if0.mp c_5
    refine px (fun _ => pm_aload_n (pc := 46) d_Gr_slot_46 rfl) ?_
    refine px (fun _ => pm_getf fl_Gr_11 (pc := 47) d_Gr_slot_47 H.1 rfl) ?_
    refine px (fun _ => pm_iload_n (pc := 50) d_Gr_slot_50 rfl) ?_
    obtain ⟨f_6, hf_7, gf_8⟩ := id H.2.1
    refine px (fun _ => pm_aald (kd := 3) (Cn := "GraphRunner$Slot") (j := j) (pc := 51) d_Gr_slot_51 (fun _ => rfl) hf_7 (rfl) (hj) (by decide) (gf_8 j hj)) ?_
    refine px (fun _ => pm_getf fl_Gr_64 (pc := 52) d_Gr_slot_52 (H.2.2.2.2.2.2.1 j hj).1 rfl) ?_
    refine px (fun _ => pm_iconst (v := 3) (pc := 55) d_Gr_slot_55 rfl) ?_
    refine pxn (fun _ => pm_icmp_ne (pc := 56) (tgt := 66) d_Gr_slot_56 (by decide)) (fun c_9 => ?_) (fun c_9 => ?_)
    · have n_c_9 : ¬ ((gK S j 0) = 3) := fun zq => c_9 ((nI_eq (a := (gK S j 0)) (b := 3) (by omega) (by omega)).mpr zq)
      exact pxr x_Gr_slot_66 rfl
    · have n_c_9 : (gK S j 0) = 3 := (nI_eq (a := (gK S j 0)) (b := 3) (by omega) (by omega)).mp c_9
      refine px (fun _ => pm_aload_n (pc := 59) d_Gr_slot_59 rfl) ?_
      refine px (fun _ => pm_getf fl_Gr_39 (pc := 60) d_Gr_slot_60 H.1 rfl) ?_
      refine pxn (fun _ => pm_if_ne (pc := 63) (tgt := 74) d_Gr_slot_63 (by decide)) (fun c_10 => ?_) (fun c_10 => ?_)
      · have n_c_10 : ¬ ((gG S 1) = 0) := fun zq => c_10 ((nI_eq (a := (gG S 1)) (b := 0) (by omega) (by omega)).mpr zq)
        exfalso; omega
      · have n_c_10 : (gG S 1) = 0 := (nI_eq (a := (gG S 1)) (b := 0) (by omega) (by omega)).mp c_10
        exact pxr x_Gr_slot_66 rfl
set_option maxHeartbeats 4000000 in
set_option maxRecDepth 20000 in
theorem c_get_b1 {l : Launch} {G : pm_G} {fi : Bool} {h : pm_H} {S : gS} {s i9 j9 : Int32} (hl : l.stackTraces = false) (H : gH S h) (hW : gW S) (hs : s < 0 ∨ 20 ≤ s) : pm_En l G fi false 1 6 M_Gr_get [.ref (0), .int (s), .int (i9), .int (j9)] h (.inr "java/lang/IllegalArgumentException", h) := by
  refine pm_Cn.eq (pm_Cn.of hl (by decide) (Nat.le_of_ble_eq_true rfl) ?_)
  refine px (fun _ => pm_iload_n (pc := 0) d_Gr_get_0 rfl) ?_
  refine px (fun _ => k_Gr_get_1 (kc1 := 0) (ks1 := 0) (kc := 1) (ks := 6) (av := [.int (s)]) (st := []) (c_isSlot_out hl hs) rfl rfl (Nat.le_of_ble_eq_true rfl)) ?_
  refine pxn (fun _ => pm_if_ne (pc := 4) (tgt := 15) d_Gr_get_4 (by decide)) (fun c_1 => absurd (by decide) c_1) (fun c_1 => ?_)
  exact pxr x_Gr_get_7 rfl
set_option maxHeartbeats 4000000 in
set_option maxRecDepth 20000 in
theorem c_get_m {l : Launch} {G : pm_G} {fi : Bool} {h : pm_H} {S : gS} {j : Nat} {i9 j9 : Int32} (hl : l.stackTraces = false) (H : gH S h) (hW : gW S) (hj : j < 20) (hb : ¬ (((gK S j 0 = 1 ∨ gK S j 0 = 2) ∨ gK S j 0 = 3 ∧ (gN S (gK S j 1) 5 = 1 ∨ gN S (gK S j 1) 4 = 1)) ∧ (¬ i9 < 0 ∧ ¬ nI (gT S j 1) ≤ i9 ∧ ¬ j9 < 0 ∧ ¬ nI (gT S j 2) ≤ j9))) : pm_En l G fi false 1 6 M_Gr_get [.ref (0), .int (nI j), .int (i9), .int (j9)] h (.inr "java/util/NoSuchElementException", h) := by
  refine pm_Cn.eq (pm_Cn.of hl (by decide) (Nat.le_of_ble_eq_true rfl) ?_)
  refine px (fun _ => pm_iload_n (pc := 0) d_Gr_get_0 rfl) ?_
  refine px (fun _ => k_Gr_get_1 (kc1 := 0) (ks1 := 0) (kc := 1) (ks := 6) (av := [.int (nI j)]) (st := []) (c_isSlot_in hl hj) rfl rfl (Nat.le_of_ble_eq_true rfl)) ?_
  refine pxn (fun _ => pm_if_ne (pc := 4) (tgt := 15) d_Gr_get_4 (by decide)) (fun c_1 => ?_) (fun c_1 => absurd c_1 (by decide))
  refine px (fun _ => pm_aload_n (pc := 15) d_Gr_get_15 rfl) ?_
  refine px (fun _ => pm_iload_n (pc := 16) d_Gr_get_16 rfl) ?_
  refine px (fun _ => k_Gr_get_17 (kc1 := 0) (ks1 := 0) (kc := 1) (ks := 6) (av := [.int (nI j)]) (st := []) H.1 (c_isThere hl H hW hj) rfl rfl (Nat.le_of_ble_eq_true rfl)) ?_
  refine pxb (fun _ => pm_if_eq (pc := 20) (tgt := 40) d_Gr_get_20 (by decide)) (fun c_2 => ?_) (fun c_2 => ?_)
  · have n_c_2 : ¬ ((gK S j 0 = 1 ∨ gK S j 0 = 2) ∨ gK S j 0 = 3 ∧ (gN S (gK S j 1) 5 = 1 ∨ gN S (gK S j 1) 4 = 1)) := g_if0.mp c_2
    exact pxr x_Gr_get_40 rfl
  · have n_c_2 : (gK S j 0 = 1 ∨ gK S j 0 = 2) ∨ gK S j 0 = 3 ∧ (gN S (gK S j 1) 5 = 1 ∨ gN S (gK S j 1) 4 = 1) := Decidable.byContradiction fun q => c_2 (g_if0.mpr q)
    refine px (fun _ => pm_aload_n (pc := 23) d_Gr_get_23 rfl) ?_
    refine px (fun _ => pm_getf fl_Gr_11 (pc := 24) d_Gr_get_24 H.1 rfl) ?_
    refine px (fun _ => pm_iload_n (pc := 27) d_Gr_get_27 rfl) ?_
    obtain ⟨f_3, hf_4, gf_5⟩ := id H.2.1
    refine px (fun _ => pm_aald (kd := 3) (Cn := "GraphRunner$Slot") (j := j) (pc := 28) d_Gr_get_28 (fun _ => rfl) hf_4 (rfl) (hj) (by decide) (gf_5 j hj)) ?_
    refine px (fun _ => pm_getf fl_Gr_67 (pc := 29) d_Gr_get_29 (H.2.2.2.2.2.2.1 j hj).1 rfl) ?_
    refine px (fun _ => pm_iload_n (pc := 32) d_Gr_get_32 rfl) ?_
    refine px (fun _ => pm_iload_n (pc := 33) d_Gr_get_33 rfl) ?_
    refine px (fun _ => k_Gr_get_34 (kc1 := 0) (ks1 := 0) (kc := 1) (ks := 6) (av := [.int (i9), .int (j9)]) (st := []) (H.2.2.2.2.2.2.1 j hj).2.1 (c_Tb_has hl (H.2.2.2.2.2.2.1 j hj).2.1) rfl rfl (Nat.le_of_ble_eq_true rfl)) ?_
    refine pxn (fun _ => pm_if_ne (pc := 37) (tgt := 48) d_Gr_get_37 (by decide)) (fun c_6 => ?_) (fun c_6 => ?_)
    · have n_c_6 : ¬ i9 < 0 ∧ ¬ nI (gT S j 1) ≤ i9 ∧ ¬ j9 < 0 ∧ ¬ nI (gT S j 2) ≤ j9 := Decidable.byContradiction fun q => c_6 (g_if0.mpr q)
      exact absurd ⟨by assumption, by assumption⟩ hb
    · have n_c_6 : ¬ (¬ i9 < 0 ∧ ¬ nI (gT S j 1) ≤ i9 ∧ ¬ j9 < 0 ∧ ¬ nI (gT S j 2) ≤ j9) := g_if0.mp c_6
      exact pxr x_Gr_get_40 rfl
set_option maxHeartbeats 4000000 in
set_option maxRecDepth 20000 in
theorem c_get_ok {l : Launch} {G : pm_G} {fi : Bool} {h : pm_H} {S : gS} {j x y : Nat} (hl : l.stackTraces = false) (H : gH S h) (hW : gW S) (hj : j < 20) (ht : (gK S j 0 = 1 ∨ gK S j 0 = 2) ∨ gK S j 0 = 3 ∧ (gN S (gK S j 1) 5 = 1 ∨ gN S (gK S j 1) 4 = 1)) (hx : x < gT S j 1) (hy : y < gT S j 2) : pm_En l G fi fi 0 0 M_Gr_get [.ref (0), .int (nI j), .int (nI x), .int (nI y)] h (.inl (some (.double (gC S j (x * 4 + y)))), h) := by
  refine pm_Cn.eq (pm_Cn.of hl (by decide) (Nat.le_of_ble_eq_true rfl) ?_)
  obtain ⟨b1, b2, b3, b4, b5, b6⟩ := id hW
  have bj := b5 j hj
  refine px (fun _ => pm_iload_n (pc := 0) d_Gr_get_0 rfl) ?_
  refine px (fun _ => k_Gr_get_1 (kc1 := 0) (ks1 := 0) (kc := 0) (ks := 0) (av := [.int (nI j)]) (st := []) (c_isSlot_in hl hj) rfl rfl (Nat.le_of_ble_eq_true rfl)) ?_
  refine pxn (fun _ => pm_if_ne (pc := 4) (tgt := 15) d_Gr_get_4 (by decide)) (fun c_1 => ?_) (fun c_1 => absurd c_1 (by decide))
  refine px (fun _ => pm_aload_n (pc := 15) d_Gr_get_15 rfl) ?_
  refine px (fun _ => pm_iload_n (pc := 16) d_Gr_get_16 rfl) ?_
  refine px (fun _ => k_Gr_get_17 (kc1 := 0) (ks1 := 0) (kc := 0) (ks := 0) (av := [.int (nI j)]) (st := []) H.1 ((by have k9 := c_isThere (l := l) (G := G) (fi := fi) hl H hW hj; rw [if_pos ht] at k9; exact k9)) rfl rfl (Nat.le_of_ble_eq_true rfl)) ?_
  refine pxb (fun _ => pm_if_eq (pc := 20) (tgt := 40) d_Gr_get_20 (by decide)) (fun c_2 => absurd c_2 (by decide)) (fun c_2 => ?_)
  refine px (fun _ => pm_aload_n (pc := 23) d_Gr_get_23 rfl) ?_
  refine px (fun _ => pm_getf fl_Gr_11 (pc := 24) d_Gr_get_24 H.1 rfl) ?_
  refine px (fun _ => pm_iload_n (pc := 27) d_Gr_get_27 rfl) ?_
  obtain ⟨f_3, hf_4, gf_5⟩ := id H.2.1
  refine px (fun _ => pm_aald (kd := 3) (Cn := "GraphRunner$Slot") (j := j) (pc := 28) d_Gr_get_28 (fun _ => rfl) hf_4 (rfl) (hj) (by decide) (gf_5 j hj)) ?_
  refine px (fun _ => pm_getf fl_Gr_67 (pc := 29) d_Gr_get_29 (H.2.2.2.2.2.2.1 j hj).1 rfl) ?_
  refine px (fun _ => pm_iload_n (pc := 32) d_Gr_get_32 rfl) ?_
  refine px (fun _ => pm_iload_n (pc := 33) d_Gr_get_33 rfl) ?_
  refine px (fun _ => k_Gr_get_34 (kc1 := 0) (ks1 := 0) (kc := 0) (ks := 0) (av := [.int (nI x), .int (nI y)]) (st := []) (H.2.2.2.2.2.2.1 j hj).2.1 ((by have k9 := c_Tb_has (l := l) (G := G) (fi := fi) (i := nI x) (j := nI y) hl (H.2.2.2.2.2.2.1 j hj).2.1; rw [if_pos ⟨nI_pos (by omega), fun q => absurd ((nI_leI (a := gT S j 1) (b := x) (by omega) (by omega)).mp q) (by omega), nI_pos (by omega), fun q => absurd ((nI_leI (a := gT S j 2) (b := y) (by omega) (by omega)).mp q) (by omega)⟩] at k9; exact k9)) rfl rfl (Nat.le_of_ble_eq_true rfl)) ?_
  refine pxn (fun _ => pm_if_ne (pc := 37) (tgt := 48) d_Gr_get_37 (by decide)) (fun c_6 => ?_) (fun c_6 => absurd c_6 (by decide))
  refine px (fun _ => pm_aload_n (pc := 48) d_Gr_get_48 rfl) ?_
  refine px (fun _ => pm_getf fl_Gr_11 (pc := 49) d_Gr_get_49 H.1 rfl) ?_
  refine px (fun _ => pm_iload_n (pc := 52) d_Gr_get_52 rfl) ?_
  obtain ⟨f_7, hf_8, gf_9⟩ := id H.2.1
  refine px (fun _ => pm_aald (kd := 3) (Cn := "GraphRunner$Slot") (j := j) (pc := 53) d_Gr_get_53 (fun _ => rfl) hf_8 (rfl) (hj) (by decide) (gf_9 j hj)) ?_
  refine px (fun _ => pm_getf fl_Gr_67 (pc := 54) d_Gr_get_54 (H.2.2.2.2.2.2.1 j hj).1 rfl) ?_
  refine px (fun _ => pm_iload_n (pc := 57) d_Gr_get_57 rfl) ?_
  refine px (fun _ => pm_iload_n (pc := 58) d_Gr_get_58 rfl) ?_
  refine px (fun _ => k_Gr_get_59 (kc1 := 0) (ks1 := 0) (kc := 0) (ks := 0) (av := [.int (nI x), .int (nI y)]) (st := []) (H.2.2.2.2.2.2.1 j hj).2.1 (c_Tb_at hl (H.2.2.2.2.2.2.1 j hj).2.1 (H.2.2.2.2.2.2.1 j hj).2.2 (i := x) (j := y) (by omega) (by omega)) rfl rfl (Nat.le_of_ble_eq_true rfl)) ?_
  exact pxr (pm_dret (pc := 62) d_Gr_get_62 rfl) rfl
set_option maxHeartbeats 4000000 in
set_option maxRecDepth 20000 in
theorem c_inOrder_ok {l : Launch} {G : pm_G} {fi : Bool} {h : pm_H} {S : gS} {k : Nat} (hl : l.stackTraces = false) (H : gH S h) (hW : gW S) (hp : gG S 1 = 1) (hk : k < gG S 0) : pm_En l G fi fi 0 0 M_Gr_inOrder [.ref (0), .int (nI (10 + k))] h (.inl (some (.int (nI (gO S k)))), h) := by
  refine pm_Cn.eq (pm_Cn.of hl (by decide) (Nat.le_of_ble_eq_true rfl) ?_)
  obtain ⟨b1, b2, b3, b4, b5, b6⟩ := id hW
  refine px (fun _ => pm_aload_n (pc := 0) d_Gr_inOrder_0 rfl) ?_
  refine px (fun _ => pm_getf fl_Gr_39 (pc := 1) d_Gr_inOrder_1 H.1 rfl) ?_
  refine pxb (fun _ => pm_if_eq (pc := 4) (tgt := 24) d_Gr_inOrder_4 (by decide)) (fun c_1 => absurd c_1 (fun q => absurd ((nI_eq (a := gG S 1) (b := 0) (by omega) (by omega)).mp q) (by omega))) (fun c_1 => ?_)
  refine px (fun _ => pm_iload_n (pc := 7) d_Gr_inOrder_7 rfl) ?_
  refine px (fun _ => pm_bipush (v := 10) (pc := 8) d_Gr_inOrder_8 rfl) ?_
  refine pxb (fun _ => pm_icmp_lt (pc := 10) (tgt := 24) d_Gr_inOrder_10 (by decide)) (fun c_2 => absurd c_2 (fun q => absurd ((nI_ltI (a := 10 + k) (b := 10) (by omega) (by omega)).mp q) (by omega))) (fun c_2 => ?_)
  refine px (fun _ => pm_iload_n (pc := 13) d_Gr_inOrder_13 rfl) ?_
  refine px (fun _ => pm_bipush (v := 10) (pc := 14) d_Gr_inOrder_14 rfl) ?_
  refine px (fun _ => pm_aload_n (pc := 16) d_Gr_inOrder_16 rfl) ?_
  refine px (fun _ => pm_getf fl_Gr_35 (pc := 17) d_Gr_inOrder_17 H.1 rfl) ?_
  refine px (fun _ => pm_iaddN (a := 10) (b := (gG S 0)) (pc := 20) d_Gr_inOrder_20) ?_
  refine pxb (fun _ => pm_icmp_lt (pc := 21) (tgt := 26) d_Gr_inOrder_21 (by decide)) (fun c_3 => ?_) (fun c_3 => absurd ((nI_ltI (a := 10 + k) (b := 10 + gG S 0) (by omega) (by omega)).mpr (by omega)) c_3)
  refine px (fun _ => pm_aload_n (pc := 26) d_Gr_inOrder_26 rfl) ?_
  refine px (fun _ => pm_getf fl_Gr_21 (pc := 27) d_Gr_inOrder_27 H.1 rfl) ?_
  refine px (fun _ => pm_iload_n (pc := 30) d_Gr_inOrder_30 rfl) ?_
  refine px (fun _ => pm_bipush (v := 10) (pc := 31) d_Gr_inOrder_31 rfl) ?_
  refine px (fun _ => pm_isub (pc := 33) d_Gr_inOrder_33) ?_
  refine px (fun _ => pm_iald (j := k) (pc := 34) d_Gr_inOrder_34 H.2.2.2.1 (by rw [show (10 : Int32) = nI 10 from rfl, pk_sub (by omega)]; congr 1; omega) (by omega) (by decide)) ?_
  exact pxr (pm_iret (pc := 35) d_Gr_inOrder_35 rfl rfl) rfl
set_option maxHeartbeats 4000000 in
set_option maxRecDepth 20000 in
theorem c_inOrder_no {l : Launch} {G : pm_G} {fi : Bool} {h : pm_H} {S : gS} {w9 : Int32} (hl : l.stackTraces = false) (H : gH S h) (hW : gW S) (hb : ¬ (gG S 1 = 1 ∧ ¬ w9 < 10 ∧ w9 < nI (10 + gG S 0))) : pm_En l G fi fi 0 0 M_Gr_inOrder [.ref (0), .int (w9)] h (.inl (some (.int (-1))), h) := by
  refine pm_Cn.eq (pm_Cn.of hl (by decide) (Nat.le_of_ble_eq_true rfl) ?_)
  obtain ⟨b1, b2, b3, b4, b5, b6⟩ := id hW
  refine px (fun _ => pm_aload_n (pc := 0) d_Gr_inOrder_0 rfl) ?_
  refine px (fun _ => pm_getf fl_Gr_39 (pc := 1) d_Gr_inOrder_1 H.1 rfl) ?_
  refine pxb (fun _ => pm_if_eq (pc := 4) (tgt := 24) d_Gr_inOrder_4 (by decide)) (fun c_1 => ?_) (fun c_1 => ?_)
  · have n_c_1 : (gG S 1) = 0 := (nI_eq (a := (gG S 1)) (b := 0) (by omega) (by omega)).mp c_1
    refine px (fun _ => pm_iconst (v := -1) (pc := 24) d_Gr_inOrder_24 rfl) ?_
    exact pxr (pm_iret (pc := 25) d_Gr_inOrder_25 rfl rfl) rfl
  · have n_c_1 : ¬ ((gG S 1) = 0) := fun zq => c_1 ((nI_eq (a := (gG S 1)) (b := 0) (by omega) (by omega)).mpr zq)
    refine px (fun _ => pm_iload_n (pc := 7) d_Gr_inOrder_7 rfl) ?_
    refine px (fun _ => pm_bipush (v := 10) (pc := 8) d_Gr_inOrder_8 rfl) ?_
    refine pxb (fun _ => pm_icmp_lt (pc := 10) (tgt := 24) d_Gr_inOrder_10 (by decide)) (fun c_2 => ?_) (fun c_2 => ?_)
    · refine px (fun _ => pm_iconst (v := -1) (pc := 24) d_Gr_inOrder_24 rfl) ?_
      exact pxr (pm_iret (pc := 25) d_Gr_inOrder_25 rfl rfl) rfl
    · refine px (fun _ => pm_iload_n (pc := 13) d_Gr_inOrder_13 rfl) ?_
      refine px (fun _ => pm_bipush (v := 10) (pc := 14) d_Gr_inOrder_14 rfl) ?_
      refine px (fun _ => pm_aload_n (pc := 16) d_Gr_inOrder_16 rfl) ?_
      refine px (fun _ => pm_getf fl_Gr_35 (pc := 17) d_Gr_inOrder_17 H.1 rfl) ?_
      refine px (fun _ => pm_iaddN (a := 10) (b := (gG S 0)) (pc := 20) d_Gr_inOrder_20) ?_
      refine pxb (fun _ => pm_icmp_lt (pc := 21) (tgt := 26) d_Gr_inOrder_21 (by decide)) (fun c_3 => ?_) (fun c_3 => ?_)
      · exact absurd ⟨by omega, by assumption, by assumption⟩ hb
      · refine px (fun _ => pm_iconst (v := -1) (pc := 24) d_Gr_inOrder_24 rfl) ?_
        exact pxr (pm_iret (pc := 25) d_Gr_inOrder_25 rfl rfl) rfl
set_option maxHeartbeats 4000000 in
set_option maxRecDepth 20000 in
theorem c_count_0 {l : Launch} {G : pm_G} {fi : Bool} {h : pm_H} {S : gS}  (hl : l.stackTraces = false) (H : gH S h) (hW : gW S)  : pm_En l G fi fi 0 0 M_Gr_count [.ref (0), .int (0)] h (.inl (some (.int (nI (gG S 0)))), h) := by
  refine pm_Cn.eq (pm_Cn.of hl (by decide) (Nat.le_of_ble_eq_true rfl) ?_)
  refine px (fun _ => pm_iload_n (pc := 0) d_Gr_count_0 rfl) ?_
  refine px (fun _ => pm_tabIn (off := 39) (tgt := 40) (pc := 1) d_Gr_count_1 (by decide) (by decide) rfl (by decide)) ?_
  refine px (fun _ => pm_aload_n (pc := 40) d_Gr_count_40 rfl) ?_
  refine px (fun _ => pm_getf fl_Gr_35 (pc := 41) d_Gr_count_41 H.1 rfl) ?_
  exact pxr (pm_iret (pc := 44) d_Gr_count_44 rfl rfl) rfl
set_option maxHeartbeats 4000000 in
set_option maxRecDepth 20000 in
theorem c_count_2 {l : Launch} {G : pm_G} {fi : Bool} {h : pm_H} {S : gS}  (hl : l.stackTraces = false) (H : gH S h) (hW : gW S)  : pm_En l G fi fi 0 0 M_Gr_count [.ref (0), .int (2)] h (.inl (some (.int (nI (g_cnt (fun n => gN S n 4) 0 (gG S 0))))), h) := by
  refine pm_Cn.eq (pm_Cn.of hl (by decide) (Nat.le_of_ble_eq_true rfl) ?_)
  refine px (fun _ => pm_iload_n (pc := 0) d_Gr_count_0 rfl) ?_
  refine px (fun _ => pm_tabIn (off := 57) (tgt := 58) (pc := 1) d_Gr_count_1 (by decide) (by decide) rfl (by decide)) ?_
  refine px (fun _ => pm_aload_n (pc := 58) d_Gr_count_58 rfl) ?_
  refine px (fun _ => k_Gr_count_59 (kc1 := 0) (ks1 := 0) (kc := 0) (ks := 0) (av := []) (st := []) H.1 (c_folded hl H hW) rfl rfl (Nat.le_of_ble_eq_true rfl)) ?_
  exact pxr (pm_iret (pc := 62) d_Gr_count_62 rfl rfl) rfl
set_option maxHeartbeats 4000000 in
set_option maxRecDepth 20000 in
theorem c_count_3 {l : Launch} {G : pm_G} {fi : Bool} {h : pm_H} {S : gS}  (hl : l.stackTraces = false) (H : gH S h) (hW : gW S)  : pm_En l G fi fi 0 0 M_Gr_count [.ref (0), .int (3)] h (.inl (some (.int (nI (g_cnt (fun n => gN S n 5) 0 (gG S 0))))), h) := by
  refine pm_Cn.eq (pm_Cn.of hl (by decide) (Nat.le_of_ble_eq_true rfl) ?_)
  refine px (fun _ => pm_iload_n (pc := 0) d_Gr_count_0 rfl) ?_
  refine px (fun _ => pm_tabIn (off := 62) (tgt := 63) (pc := 1) d_Gr_count_1 (by decide) (by decide) rfl (by decide)) ?_
  refine px (fun _ => pm_aload_n (pc := 63) d_Gr_count_63 rfl) ?_
  refine px (fun _ => k_Gr_count_64 (kc1 := 0) (ks1 := 0) (kc := 0) (ks := 0) (av := []) (st := []) H.1 (c_known hl H hW) rfl rfl (Nat.le_of_ble_eq_true rfl)) ?_
  exact pxr (pm_iret (pc := 67) d_Gr_count_67 rfl rfl) rfl
set_option maxHeartbeats 4000000 in
set_option maxRecDepth 20000 in
theorem c_count_4 {l : Launch} {G : pm_G} {fi : Bool} {h : pm_H} {S : gS}  (hl : l.stackTraces = false) (H : gH S h) (hW : gW S)  : pm_En l G fi fi 0 0 M_Gr_count [.ref (0), .int (4)] h (.inl (some (.int (nI (gG S 2)))), h) := by
  refine pm_Cn.eq (pm_Cn.of hl (by decide) (Nat.le_of_ble_eq_true rfl) ?_)
  refine px (fun _ => pm_iload_n (pc := 0) d_Gr_count_0 rfl) ?_
  refine px (fun _ => pm_tabIn (off := 67) (tgt := 68) (pc := 1) d_Gr_count_1 (by decide) (by decide) rfl (by decide)) ?_
  refine px (fun _ => pm_aload_n (pc := 68) d_Gr_count_68 rfl) ?_
  refine px (fun _ => pm_getf fl_Gr_43 (pc := 69) d_Gr_count_69 H.1 rfl) ?_
  exact pxr (pm_iret (pc := 72) d_Gr_count_72 rfl rfl) rfl
set_option maxHeartbeats 4000000 in
set_option maxRecDepth 20000 in
theorem c_count_5 {l : Launch} {G : pm_G} {fi : Bool} {h : pm_H} {S : gS}  (hl : l.stackTraces = false) (H : gH S h) (hW : gW S)  : pm_En l G fi fi 0 0 M_Gr_count [.ref (0), .int (5)] h (.inl (some (.int (nI (gG S 3)))), h) := by
  refine pm_Cn.eq (pm_Cn.of hl (by decide) (Nat.le_of_ble_eq_true rfl) ?_)
  refine px (fun _ => pm_iload_n (pc := 0) d_Gr_count_0 rfl) ?_
  refine px (fun _ => pm_tabIn (off := 72) (tgt := 73) (pc := 1) d_Gr_count_1 (by decide) (by decide) rfl (by decide)) ?_
  refine px (fun _ => pm_aload_n (pc := 73) d_Gr_count_73 rfl) ?_
  refine px (fun _ => pm_getf fl_Gr_46 (pc := 74) d_Gr_count_74 H.1 rfl) ?_
  exact pxr (pm_iret (pc := 77) d_Gr_count_77 rfl rfl) rfl
set_option maxHeartbeats 4000000 in
set_option maxRecDepth 20000 in
theorem c_count_1 {l : Launch} {G : pm_G} {fi : Bool} {h : pm_H} {S : gS}  (hl : l.stackTraces = false) (H : gH S h) (hW : gW S)  : pm_En l G fi fi 0 0 M_Gr_count [.ref (0), .int (1)] h (.inl (some (.int (nI (gG S 1)))), h) := by
  refine pm_Cn.eq (pm_Cn.of hl (by decide) (Nat.le_of_ble_eq_true rfl) ?_)
  obtain ⟨b1, b2, b3, b4, b5, b6⟩ := id hW
  refine px (fun _ => pm_iload_n (pc := 0) d_Gr_count_0 rfl) ?_
  refine px (fun _ => pm_tabIn (off := 44) (tgt := 45) (pc := 1) d_Gr_count_1 (by decide) (by decide) rfl (by decide)) ?_
  refine px (fun _ => pm_aload_n (pc := 45) d_Gr_count_45 rfl) ?_
  refine px (fun _ => pm_getf fl_Gr_39 (pc := 46) d_Gr_count_46 H.1 rfl) ?_
  refine pxb (fun _ => pm_if_eq (pc := 49) (tgt := 56) d_Gr_count_49 (by decide)) (fun c_1 => ?_) (fun c_1 => ?_)
  · have n_c_1 : (gG S 1) = 0 := (nI_eq (a := (gG S 1)) (b := 0) (by omega) (by omega)).mp c_1
    refine px (fun _ => pm_iconst (v := 0) (pc := 56) d_Gr_count_56 rfl) ?_
    exact pxr (pm_iret (pc := 57) d_Gr_count_57 rfl rfl) (by rw [show gG S 1 = 0 by omega]; rfl)
  · have n_c_1 : ¬ ((gG S 1) = 0) := fun zq => c_1 ((nI_eq (a := (gG S 1)) (b := 0) (by omega) (by omega)).mpr zq)
    refine px (fun _ => pm_iconst (v := 1) (pc := 52) d_Gr_count_52 rfl) ?_
    refine px (fun _ => pm_goto (tgt := 57) (pc := 53) d_Gr_count_53 (by decide)) ?_
    exact pxr (pm_iret (pc := 57) d_Gr_count_57 rfl rfl) (by rw [show gG S 1 = 1 by omega]; rfl)
set_option maxHeartbeats 4000000 in
set_option maxRecDepth 20000 in
theorem c_count_o {l : Launch} {G : pm_G} {fi : Bool} {h : pm_H} {S : gS} {k : Nat} (hl : l.stackTraces = false) (H : gH S h) (hW : gW S) (hp : gG S 1 = 1) (hk : k < gG S 0) : pm_En l G fi fi 0 0 M_Gr_count [.ref (0), .int (nI (10 + k))] h (.inl (some (.int (nI (gO S k)))), h) := by
  refine pm_Cn.eq (pm_Cn.of hl (by decide) (Nat.le_of_ble_eq_true rfl) ?_)
  obtain ⟨b1, b2, b3, b4, b5, b6⟩ := id hW
  have hx : (nI (10 + k)).toInt < 0 ∨ 5 < (nI (10 + k)).toInt := by rw [nI_toInt (by omega)]; omega
  refine px (fun _ => pm_iload_n (pc := 0) d_Gr_count_0 rfl) ?_
  refine px (fun _ => pm_tabOut (tgt := 78) (pc := 1) d_Gr_count_1 (hx) (by decide)) ?_
  refine px (fun _ => pm_aload_n (pc := 78) d_Gr_count_78 rfl) ?_
  refine px (fun _ => pm_iload_n (pc := 79) d_Gr_count_79 rfl) ?_
  refine px (fun _ => k_Gr_count_80 (kc1 := 0) (ks1 := 0) (kc := 0) (ks := 0) (av := [.int (nI (10 + k))]) (st := []) H.1 (c_inOrder_ok hl H hW hp hk) rfl rfl (Nat.le_of_ble_eq_true rfl)) ?_
  exact pxr (pm_iret (pc := 83) d_Gr_count_83 rfl rfl) rfl
set_option maxHeartbeats 4000000 in
set_option maxRecDepth 20000 in
theorem c_count_n {l : Launch} {G : pm_G} {fi : Bool} {h : pm_H} {S : gS} {w9 : Int32} (hl : l.stackTraces = false) (H : gH S h) (hW : gW S) (hx : w9.toInt < 0 ∨ 5 < w9.toInt) (hb : ¬ (gG S 1 = 1 ∧ ¬ w9 < 10 ∧ w9 < nI (10 + gG S 0))) : pm_En l G fi fi 0 0 M_Gr_count [.ref (0), .int (w9)] h (.inl (some (.int (-1))), h) := by
  refine pm_Cn.eq (pm_Cn.of hl (by decide) (Nat.le_of_ble_eq_true rfl) ?_)
  refine px (fun _ => pm_iload_n (pc := 0) d_Gr_count_0 rfl) ?_
  refine px (fun _ => pm_tabOut (tgt := 78) (pc := 1) d_Gr_count_1 (hx) (by decide)) ?_
  refine px (fun _ => pm_aload_n (pc := 78) d_Gr_count_78 rfl) ?_
  refine px (fun _ => pm_iload_n (pc := 79) d_Gr_count_79 rfl) ?_
  refine px (fun _ => k_Gr_count_80 (kc1 := 0) (ks1 := 0) (kc := 0) (ks := 0) (av := [.int (w9)]) (st := []) H.1 (c_inOrder_no hl H hW hb) rfl rfl (Nat.le_of_ble_eq_true rfl)) ?_
  exact pxr (pm_iret (pc := 83) d_Gr_count_83 rfl rfl) rfl
