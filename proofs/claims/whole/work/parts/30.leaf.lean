/-! ===== leaves: Table, Node, the predicates ===== -/
section PML
variable {l : Launch} {G : pm_G} {fi fo : Bool} {kc ks : Nat} {M : pm_M} {pc : Nat} {lv : List (Nat × Value)} {st : List Value} {h h1 : pm_H} {r : pm_O × pm_H}
theorem pm_retT {p : Prop} [Decidable p] (hp : p) (k : pm_Ev l G fi fo kc ks M pc lv st h (.inl (some (.int 1)), h1)) : pm_Ev l G fi fo kc ks M pc lv st h (.inl (some (.int (if p then 1 else 0))), h1) := by rw [if_pos hp]; exact k
theorem pm_retF {p : Prop} [Decidable p] (hp : ¬ p) (k : pm_Ev l G fi fo kc ks M pc lv st h (.inl (some (.int 0)), h1)) : pm_Ev l G fi fo kc ks M pc lv st h (.inl (some (.int (if p then 1 else 0))), h1) := by rw [if_neg hp]; exact k
theorem pm_retE {r' : pm_O × pm_H} (he : r = r') (k : pm_Ev l G fi fo kc ks M pc lv st h r') : pm_Ev l G fi fo kc ks M pc lv st h r := by rw [he]; exact k
end PML
set_option maxHeartbeats 4000000 in
set_option maxRecDepth 20000 in
theorem c_Gr_isSlot {l : Launch} {G : pm_G} {fi : Bool} {h : pm_H} {s : Int32} (hl : l.stackTraces = false)  : pm_En l G fi fi 0 0 M_Gr_isSlot [.int (s)] h (.inl (some (.int (if ¬ s < 0 ∧ ¬ 20 ≤ s then 1 else 0))), h) := by
  refine pm_En.of hl (by decide) (Nat.le_of_ble_eq_true rfl) ?_
  refine pm_iload_n (pc := 0) d_Gr_isSlot_0 rfl ?_
  refine pm_if_lt (pc := 1) (tgt := 14) d_Gr_isSlot_1 (by decide) (fun c_1 => ?_) (fun c_1 => ?_)
  · refine pm_iconst (v := 0) (pc := 14) d_Gr_isSlot_14 rfl ?_
    exact pm_retF (by simp_all) (pm_iret (pc := 15) d_Gr_isSlot_15 rfl rfl)
  · refine pm_iload_n (pc := 4) d_Gr_isSlot_4 rfl ?_
    refine pm_bipush (v := 20) (pc := 5) d_Gr_isSlot_5 rfl ?_
    refine pm_icmp_ge (pc := 7) (tgt := 14) d_Gr_isSlot_7 (by decide) (fun c_2 => ?_) (fun c_2 => ?_)
    · refine pm_iconst (v := 0) (pc := 14) d_Gr_isSlot_14 rfl ?_
      exact pm_retF (by simp_all) (pm_iret (pc := 15) d_Gr_isSlot_15 rfl rfl)
    · refine pm_iconst (v := 1) (pc := 10) d_Gr_isSlot_10 rfl ?_
      refine pm_goto (tgt := 15) (pc := 11) d_Gr_isSlot_11 (by decide) ?_
      exact pm_retT (by simp_all) (pm_iret (pc := 15) d_Gr_isSlot_15 rfl rfl)
set_option maxHeartbeats 4000000 in
set_option maxRecDepth 20000 in
theorem c_Gr_isType {l : Launch} {G : pm_G} {fi : Bool} {h : pm_H} {t : Int32} (hl : l.stackTraces = false)  : pm_En l G fi fi 0 0 M_Gr_isType [.int (t)] h (.inl (some (.int (if t = 0 ∨ t = 1 then 1 else 0))), h) := by
  refine pm_En.of hl (by decide) (Nat.le_of_ble_eq_true rfl) ?_
  refine pm_iload_n (pc := 0) d_Gr_isType_0 rfl ?_
  refine pm_if_eq (pc := 1) (tgt := 9) d_Gr_isType_1 (by decide) (fun c_1 => ?_) (fun c_1 => ?_)
  · refine pm_iconst (v := 1) (pc := 9) d_Gr_isType_9 rfl ?_
    refine pm_goto (tgt := 14) (pc := 10) d_Gr_isType_10 (by decide) ?_
    exact pm_retT (by simp_all) (pm_iret (pc := 14) d_Gr_isType_14 rfl rfl)
  · refine pm_iload_n (pc := 4) d_Gr_isType_4 rfl ?_
    refine pm_iconst (v := 1) (pc := 5) d_Gr_isType_5 rfl ?_
    refine pm_icmp_ne (pc := 6) (tgt := 13) d_Gr_isType_6 (by decide) (fun c_2 => ?_) (fun c_2 => ?_)
    · refine pm_iconst (v := 0) (pc := 13) d_Gr_isType_13 rfl ?_
      exact pm_retF (by simp_all) (pm_iret (pc := 14) d_Gr_isType_14 rfl rfl)
    · refine pm_iconst (v := 1) (pc := 9) d_Gr_isType_9 rfl ?_
      refine pm_goto (tgt := 14) (pc := 10) d_Gr_isType_10 (by decide) ?_
      exact pm_retT (by simp_all) (pm_iret (pc := 14) d_Gr_isType_14 rfl rfl)
set_option maxHeartbeats 4000000 in
set_option maxRecDepth 20000 in
theorem c_Gr_isSide {l : Launch} {G : pm_G} {fi : Bool} {h : pm_H} {n : Int32} (hl : l.stackTraces = false)  : pm_En l G fi fi 0 0 M_Gr_isSide [.int (n)] h (.inl (some (.int (if ¬ n < 1 ∧ ¬ 4 < n then 1 else 0))), h) := by
  refine pm_En.of hl (by decide) (Nat.le_of_ble_eq_true rfl) ?_
  refine pm_iload_n (pc := 0) d_Gr_isSide_0 rfl ?_
  refine pm_iconst (v := 1) (pc := 1) d_Gr_isSide_1 rfl ?_
  refine pm_icmp_lt (pc := 2) (tgt := 14) d_Gr_isSide_2 (by decide) (fun c_1 => ?_) (fun c_1 => ?_)
  · refine pm_iconst (v := 0) (pc := 14) d_Gr_isSide_14 rfl ?_
    exact pm_retF (by simp_all) (pm_iret (pc := 15) d_Gr_isSide_15 rfl rfl)
  · refine pm_iload_n (pc := 5) d_Gr_isSide_5 rfl ?_
    refine pm_iconst (v := 4) (pc := 6) d_Gr_isSide_6 rfl ?_
    refine pm_icmp_gt (pc := 7) (tgt := 14) d_Gr_isSide_7 (by decide) (fun c_2 => ?_) (fun c_2 => ?_)
    · refine pm_iconst (v := 0) (pc := 14) d_Gr_isSide_14 rfl ?_
      exact pm_retF (by simp_all) (pm_iret (pc := 15) d_Gr_isSide_15 rfl rfl)
    · refine pm_iconst (v := 1) (pc := 10) d_Gr_isSide_10 rfl ?_
      refine pm_goto (tgt := 15) (pc := 11) d_Gr_isSide_11 (by decide) ?_
      exact pm_retT (by simp_all) (pm_iret (pc := 15) d_Gr_isSide_15 rfl rfl)
set_option maxHeartbeats 4000000 in
set_option maxRecDepth 20000 in
theorem c_Gr_isNumber {l : Launch} {G : pm_G} {fi : Bool} {h : pm_H} {n : Int32} (hl : l.stackTraces = false)  : pm_En l G fi fi 0 0 M_Gr_isNumber [.int (n)] h (.inl (some (.int (if ¬ n < -8 ∧ ¬ 8 < n then 1 else 0))), h) := by
  refine pm_En.of hl (by decide) (Nat.le_of_ble_eq_true rfl) ?_
  refine pm_iload_n (pc := 0) d_Gr_isNumber_0 rfl ?_
  refine pm_bipush (v := -8) (pc := 1) d_Gr_isNumber_1 rfl ?_
  refine pm_icmp_lt (pc := 3) (tgt := 16) d_Gr_isNumber_3 (by decide) (fun c_1 => ?_) (fun c_1 => ?_)
  · refine pm_iconst (v := 0) (pc := 16) d_Gr_isNumber_16 rfl ?_
    exact pm_retF (by simp_all) (pm_iret (pc := 17) d_Gr_isNumber_17 rfl rfl)
  · refine pm_iload_n (pc := 6) d_Gr_isNumber_6 rfl ?_
    refine pm_bipush (v := 8) (pc := 7) d_Gr_isNumber_7 rfl ?_
    refine pm_icmp_gt (pc := 9) (tgt := 16) d_Gr_isNumber_9 (by decide) (fun c_2 => ?_) (fun c_2 => ?_)
    · refine pm_iconst (v := 0) (pc := 16) d_Gr_isNumber_16 rfl ?_
      exact pm_retF (by simp_all) (pm_iret (pc := 17) d_Gr_isNumber_17 rfl rfl)
    · refine pm_iconst (v := 1) (pc := 12) d_Gr_isNumber_12 rfl ?_
      refine pm_goto (tgt := 17) (pc := 13) d_Gr_isNumber_13 (by decide) ?_
      exact pm_retT (by simp_all) (pm_iret (pc := 17) d_Gr_isNumber_17 rfl rfl)
set_option maxHeartbeats 4000000 in
set_option maxRecDepth 20000 in
theorem c_Tb_has {l : Launch} {G : pm_G} {fi : Bool} {h : pm_H} {a c : Nat} {ty rw cl : Int32} {i j : Int32} (hl : l.stackTraces = false) (ht : h[a]? = some (pm_Ob 2 [.ref c, .int ty, .int rw, .int cl])) : pm_En l G fi fi 0 0 M_Tb_has [.ref (a), .int (i), .int (j)] h (.inl (some (.int (if ¬ i < 0 ∧ ¬ rw ≤ i ∧ ¬ j < 0 ∧ ¬ cl ≤ j then 1 else 0))), h) := by
  refine pm_En.of hl (by decide) (Nat.le_of_ble_eq_true rfl) ?_
  refine pm_iload_n (pc := 0) d_Tb_has_0 rfl ?_
  refine pm_if_lt (pc := 1) (tgt := 28) d_Tb_has_1 (by decide) (fun c_1 => ?_) (fun c_1 => ?_)
  · refine pm_iconst (v := 0) (pc := 28) d_Tb_has_28 rfl ?_
    exact pm_retF (by simp_all) (pm_iret (pc := 29) d_Tb_has_29 rfl rfl)
  · refine pm_iload_n (pc := 4) d_Tb_has_4 rfl ?_
    refine pm_aload_n (pc := 5) d_Tb_has_5 rfl ?_
    refine pm_getf fl_Tb_19 (pc := 6) d_Tb_has_6 ht rfl ?_
    refine pm_icmp_ge (pc := 9) (tgt := 28) d_Tb_has_9 (by decide) (fun c_2 => ?_) (fun c_2 => ?_)
    · refine pm_iconst (v := 0) (pc := 28) d_Tb_has_28 rfl ?_
      exact pm_retF (by simp_all) (pm_iret (pc := 29) d_Tb_has_29 rfl rfl)
    · refine pm_iload_n (pc := 12) d_Tb_has_12 rfl ?_
      refine pm_if_lt (pc := 13) (tgt := 28) d_Tb_has_13 (by decide) (fun c_3 => ?_) (fun c_3 => ?_)
      · refine pm_iconst (v := 0) (pc := 28) d_Tb_has_28 rfl ?_
        exact pm_retF (by simp_all) (pm_iret (pc := 29) d_Tb_has_29 rfl rfl)
      · refine pm_iload_n (pc := 16) d_Tb_has_16 rfl ?_
        refine pm_aload_n (pc := 17) d_Tb_has_17 rfl ?_
        refine pm_getf fl_Tb_22 (pc := 18) d_Tb_has_18 ht rfl ?_
        refine pm_icmp_ge (pc := 21) (tgt := 28) d_Tb_has_21 (by decide) (fun c_4 => ?_) (fun c_4 => ?_)
        · refine pm_iconst (v := 0) (pc := 28) d_Tb_has_28 rfl ?_
          exact pm_retF (by simp_all) (pm_iret (pc := 29) d_Tb_has_29 rfl rfl)
        · refine pm_iconst (v := 1) (pc := 24) d_Tb_has_24 rfl ?_
          refine pm_goto (tgt := 29) (pc := 25) d_Tb_has_25 (by decide) ?_
          exact pm_retT (by simp_all) (pm_iret (pc := 29) d_Tb_has_29 rfl rfl)
set_option maxHeartbeats 4000000 in
set_option maxRecDepth 20000 in
theorem c_Tb_at {l : Launch} {G : pm_G} {fi : Bool} {h : pm_H} {a c : Nat} {ty rw cl : Int32} {f : Nat → UInt64} {i j : Nat} (hl : l.stackTraces = false) (ht : h[a]? = some (pm_Ob 2 [.ref c, .int ty, .int rw, .int cl])) (hc : h[c]? = some (pm_Dd 16 f)) (hi : i < 4) (hj : j < 4) : pm_En l G fi fi 0 0 M_Tb_at [.ref (a), .int (nI i), .int (nI j)] h (.inl (some (.double (f (i * 4 + j)))), h) := by
  refine pm_En.of hl (by decide) (Nat.le_of_ble_eq_true rfl) ?_
  refine pm_aload_n (pc := 0) d_Tb_at_0 rfl ?_
  refine pm_getf fl_Tb_9 (pc := 1) d_Tb_at_1 ht rfl ?_
  refine pm_iload_n (pc := 4) d_Tb_at_4 rfl ?_
  refine pm_iconst (v := 4) (pc := 5) d_Tb_at_5 rfl ?_
  refine pm_imul (pc := 6) d_Tb_at_6 ?_
  refine pm_iload_n (pc := 7) d_Tb_at_7 rfl ?_
  refine pm_iadd (pc := 8) d_Tb_at_8 ?_
  refine pm_dald (j := i * 4 + j) (pc := 9) d_Tb_at_9 hc (by rw [show (4 : Int32) = nI 4 from rfl, pk_mul, nI_add]) (by omega) (by decide) ?_
  exact pm_dret (pc := 10) d_Tb_at_10 rfl
