/-! ===== the law's helpers ===== -/
theorem pm_En.more {l : Launch} {G : pm_G} {fi fo : Bool} {kc ks kc' ks' : Nat} {M : pm_M} {av : List Value} {h : pm_H} {r : pm_O × pm_H} (hc : kc ≤ kc') (hs : ks ≤ ks') (k : pm_En l G fi fo kc ks M av h r) : pm_En l G fi fo kc' ks' M av h r := fun mc ms h1 h2 => k mc ms (Nat.le_trans hc h1) (Nat.le_trans hs h2)
set_option maxHeartbeats 1000000 in
set_option maxRecDepth 20000 in
theorem lw_table_ok {l : Launch} {G : pm_G} {fi f1 : Bool} {kc ks : Nat} {h h1 : pm_H} {fs : List Value} {p0 p1 p2 p3 p4 : Int32} (hl : l.stackTraces = false) (hb : h[0]? = some (pm_Ob 3 fs)) (en : pm_En l G fi f1 kc ks M_Gr_table [.ref (0), .int (p0), .int (p1), .int (p2), .int (p3), .int (p4)] h (.inl none, h1)) : pm_En l G fi f1 kc ks M_Lw_table [.ref (0), .int (p0), .int (p1), .int (p2), .int (p3), .int (p4)] h (.inl (some (.int 0)), h1) := by
  refine pm_En.of hl (by decide) (Nat.le_of_ble_eq_true rfl) ?_
  refine pm_aload_n (pc := 0) d_Lw_table_0 rfl ?_
  refine pm_iload_n (pc := 1) d_Lw_table_1 rfl ?_
  refine pm_iload_n (pc := 2) d_Lw_table_2 rfl ?_
  refine pm_iload_n (pc := 3) d_Lw_table_3 rfl ?_
  refine pm_iload (pc := 4) d_Lw_table_4 rfl ?_
  refine pm_iload (pc := 6) d_Lw_table_6 rfl ?_
  refine k_Lw_table_8 (kc1 := kc) (ks1 := ks) (kc := 0) (ks := 0) (av := [.int (p0), .int (p1), .int (p2), .int (p3), .int (p4)]) (st := []) hb en rfl rfl (Nat.le_of_ble_eq_true rfl) ?_
  refine pm_goto (tgt := 18) (pc := 11) d_Lw_table_11 (by decide) ?_
  refine pm_iconst (v := 0) (pc := 18) d_Lw_table_18 rfl ?_
  exact pm_iret (pc := 19) d_Lw_table_19 rfl rfl
set_option maxHeartbeats 1000000 in
set_option maxRecDepth 20000 in
theorem lw_table_x1 {l : Launch} {G : pm_G} {fi f1 : Bool} {kc ks : Nat} {h h1 : pm_H} {fs : List Value} {p0 p1 p2 p3 p4 : Int32} (hl : l.stackTraces = false) (hb : h[0]? = some (pm_Ob 3 fs)) (en : pm_En l G fi f1 kc ks M_Gr_table [.ref (0), .int (p0), .int (p1), .int (p2), .int (p3), .int (p4)] h (.inr "java/lang/IllegalArgumentException", h1)) : pm_En l G fi f1 kc ks M_Lw_table [.ref (0), .int (p0), .int (p1), .int (p2), .int (p3), .int (p4)] h (.inl (some (.int 1)), h1) := by
  refine pm_En.of hl (by decide) (Nat.le_of_ble_eq_true rfl) ?_
  refine pm_aload_n (pc := 0) d_Lw_table_0 rfl ?_
  refine pm_iload_n (pc := 1) d_Lw_table_1 rfl ?_
  refine pm_iload_n (pc := 2) d_Lw_table_2 rfl ?_
  refine pm_iload_n (pc := 3) d_Lw_table_3 rfl ?_
  refine pm_iload (pc := 4) d_Lw_table_4 rfl ?_
  refine pm_iload (pc := 6) d_Lw_table_6 rfl ?_
  exact pm_catch (b := 0) (ci := 3) (T := T_Gr) (N0 := 9) (len := 2) (E := "java/lang/IllegalArgumentException") (name := "java/lang/IllegalArgumentException") (pre := []) (suf := []) (x := ⟨0, 11, 14, 13⟩) (k0 := 1) (w := 1) (av := [.int (p0), .int (p1), .int (p2), .int (p3), .int (p4)]) (st := []) cb_Lw_table_Gr_table tw_174 tw_175 tw_176 d_Lw_table_8 hb rfl en rfl rfl (Nat.le_of_ble_eq_true rfl) rfl (fun z hz => nomatch hz) rfl (by decide) (pm_t1 (i := 173) rfl rfl) (pm_t2 (i := 193) rfl rfl) (Or.inl ⟨6, rfl, by decide, d_Lw_table_14⟩) d_Lw_table_16 rfl d_Lw_table_17 rfl
set_option maxHeartbeats 1000000 in
set_option maxRecDepth 20000 in
theorem lw_set_ok {l : Launch} {G : pm_G} {fi f1 : Bool} {kc ks : Nat} {h h1 : pm_H} {fs : List Value} {p0 p1 p2 : Int32} {p3 : UInt64} (hl : l.stackTraces = false) (hb : h[0]? = some (pm_Ob 3 fs)) (en : pm_En l G fi f1 kc ks M_Gr_set [.ref (0), .int (p0), .int (p1), .int (p2), .double (p3)] h (.inl none, h1)) : pm_En l G fi f1 kc ks M_Lw_set [.ref (0), .int (p0), .int (p1), .int (p2), .double (p3)] h (.inl (some (.int 0)), h1) := by
  refine pm_En.of hl (by decide) (Nat.le_of_ble_eq_true rfl) ?_
  refine pm_aload_n (pc := 0) d_Lw_set_0 rfl ?_
  refine pm_iload_n (pc := 1) d_Lw_set_1 rfl ?_
  refine pm_iload_n (pc := 2) d_Lw_set_2 rfl ?_
  refine pm_iload_n (pc := 3) d_Lw_set_3 rfl ?_
  refine pm_dload (pc := 4) d_Lw_set_4 rfl ?_
  refine k_Lw_set_6 (kc1 := kc) (ks1 := ks) (kc := 0) (ks := 0) (av := [.int (p0), .int (p1), .int (p2), .double (p3)]) (st := []) hb en rfl rfl (Nat.le_of_ble_eq_true rfl) ?_
  refine pm_goto (tgt := 16) (pc := 9) d_Lw_set_9 (by decide) ?_
  refine pm_iconst (v := 0) (pc := 16) d_Lw_set_16 rfl ?_
  exact pm_iret (pc := 17) d_Lw_set_17 rfl rfl
set_option maxHeartbeats 1000000 in
set_option maxRecDepth 20000 in
theorem lw_set_x1 {l : Launch} {G : pm_G} {fi f1 : Bool} {kc ks : Nat} {h h1 : pm_H} {fs : List Value} {p0 p1 p2 : Int32} {p3 : UInt64} (hl : l.stackTraces = false) (hb : h[0]? = some (pm_Ob 3 fs)) (en : pm_En l G fi f1 kc ks M_Gr_set [.ref (0), .int (p0), .int (p1), .int (p2), .double (p3)] h (.inr "java/lang/IllegalArgumentException", h1)) : pm_En l G fi f1 kc ks M_Lw_set [.ref (0), .int (p0), .int (p1), .int (p2), .double (p3)] h (.inl (some (.int 1)), h1) := by
  refine pm_En.of hl (by decide) (Nat.le_of_ble_eq_true rfl) ?_
  refine pm_aload_n (pc := 0) d_Lw_set_0 rfl ?_
  refine pm_iload_n (pc := 1) d_Lw_set_1 rfl ?_
  refine pm_iload_n (pc := 2) d_Lw_set_2 rfl ?_
  refine pm_iload_n (pc := 3) d_Lw_set_3 rfl ?_
  refine pm_dload (pc := 4) d_Lw_set_4 rfl ?_
  exact pm_catch (b := 0) (ci := 3) (T := T_Gr) (N0 := 9) (len := 2) (E := "java/lang/IllegalArgumentException") (name := "java/lang/IllegalArgumentException") (pre := []) (suf := []) (x := ⟨0, 9, 12, 13⟩) (k0 := 1) (w := 1) (av := [.int (p0), .int (p1), .int (p2), .double (p3)]) (st := []) cb_Lw_set_Gr_set tw_277 tw_278 tw_279 d_Lw_set_6 hb rfl en rfl rfl (Nat.le_of_ble_eq_true rfl) rfl (fun z hz => nomatch hz) rfl (by decide) (pm_t1 (i := 173) rfl rfl) (pm_t2 (i := 193) rfl rfl) (Or.inl ⟨6, rfl, by decide, d_Lw_set_12⟩) d_Lw_set_14 rfl d_Lw_set_15 rfl
set_option maxHeartbeats 1000000 in
set_option maxRecDepth 20000 in
theorem lw_node_ok {l : Launch} {G : pm_G} {fi f1 : Bool} {kc ks : Nat} {h h1 : pm_H} {fs : List Value} {p0 p1 p2 p3 p4 p5 p6 : Int32} {v : Int32} {g : Nat → Int64} (hl : l.stackTraces = false) (hb : h[0]? = some (pm_Ob 3 fs)) (en : pm_En l G fi f1 kc ks M_Gr_node [.ref (0), .int (p0), .int (p1), .int (p2), .int (p3), .int (p4), .int (p5), .int (p6)] h (.inl (some (.int v)), h1)) (ho : h1[110]? = some (pm_Lg 1 g)) : pm_En l G fi f1 kc ks M_Lw_node [.ref (0), .int (p0), .int (p1), .int (p2), .int (p3), .int (p4), .int (p5), .int (p6), .ref (110)] h (.inl (some (.int 0)), h1.set 110 (pm_Lg 1 (va_up g 0 v.toInt64))) := by
  refine pm_En.of hl (by decide) (Nat.le_of_ble_eq_true rfl) ?_
  refine pm_aload (pc := 0) d_Lw_node_0 rfl ?_
  refine pm_iconst (v := 0) (pc := 2) d_Lw_node_2 rfl ?_
  refine pm_aload_n (pc := 3) d_Lw_node_3 rfl ?_
  refine pm_iload_n (pc := 4) d_Lw_node_4 rfl ?_
  refine pm_iload_n (pc := 5) d_Lw_node_5 rfl ?_
  refine pm_iload_n (pc := 6) d_Lw_node_6 rfl ?_
  refine pm_iload (pc := 7) d_Lw_node_7 rfl ?_
  refine pm_iload (pc := 9) d_Lw_node_9 rfl ?_
  refine pm_iload (pc := 11) d_Lw_node_11 rfl ?_
  refine pm_iload (pc := 13) d_Lw_node_13 rfl ?_
  refine k_Lw_node_15 (kc1 := kc) (ks1 := ks) (kc := 0) (ks := 0) (av := [.int (p0), .int (p1), .int (p2), .int (p3), .int (p4), .int (p5), .int (p6)]) (st := [.int (0), .ref (110)]) hb en rfl rfl (Nat.le_of_ble_eq_true rfl) ?_
  refine pm_i2l (pc := 18) d_Lw_node_18 ?_
  refine pm_last (j := 0) (pc := 19) d_Lw_node_19 ho rfl (by decide) (by decide) ?_
  refine pm_goto (tgt := 31) (pc := 20) d_Lw_node_20 (by decide) ?_
  refine pm_iconst (v := 0) (pc := 31) d_Lw_node_31 rfl ?_
  exact pm_iret (pc := 32) d_Lw_node_32 rfl rfl
set_option maxHeartbeats 1000000 in
set_option maxRecDepth 20000 in
theorem lw_node_x1 {l : Launch} {G : pm_G} {fi f1 : Bool} {kc ks : Nat} {h h1 : pm_H} {fs : List Value} {p0 p1 p2 p3 p4 p5 p6 : Int32} (hl : l.stackTraces = false) (hb : h[0]? = some (pm_Ob 3 fs)) (en : pm_En l G fi f1 kc ks M_Gr_node [.ref (0), .int (p0), .int (p1), .int (p2), .int (p3), .int (p4), .int (p5), .int (p6)] h (.inr "java/lang/IllegalArgumentException", h1)) : pm_En l G fi f1 kc ks M_Lw_node [.ref (0), .int (p0), .int (p1), .int (p2), .int (p3), .int (p4), .int (p5), .int (p6), .ref (110)] h (.inl (some (.int 1)), h1) := by
  refine pm_En.of hl (by decide) (Nat.le_of_ble_eq_true rfl) ?_
  refine pm_aload (pc := 0) d_Lw_node_0 rfl ?_
  refine pm_iconst (v := 0) (pc := 2) d_Lw_node_2 rfl ?_
  refine pm_aload_n (pc := 3) d_Lw_node_3 rfl ?_
  refine pm_iload_n (pc := 4) d_Lw_node_4 rfl ?_
  refine pm_iload_n (pc := 5) d_Lw_node_5 rfl ?_
  refine pm_iload_n (pc := 6) d_Lw_node_6 rfl ?_
  refine pm_iload (pc := 7) d_Lw_node_7 rfl ?_
  refine pm_iload (pc := 9) d_Lw_node_9 rfl ?_
  refine pm_iload (pc := 11) d_Lw_node_11 rfl ?_
  refine pm_iload (pc := 13) d_Lw_node_13 rfl ?_
  exact pm_catch (b := 0) (ci := 3) (T := T_Gr) (N0 := 9) (len := 2) (E := "java/lang/IllegalArgumentException") (name := "java/lang/IllegalArgumentException") (pre := []) (suf := [(⟨0, 20, 27, 23⟩ : ExceptionTableEntry)]) (x := ⟨0, 20, 23, 13⟩) (k0 := 1) (w := 1) (av := [.int (p0), .int (p1), .int (p2), .int (p3), .int (p4), .int (p5), .int (p6)]) (st := [.int (0), .ref (110)]) cb_Lw_node_Gr_node tw_302 tw_303 tw_304 d_Lw_node_15 hb rfl en rfl rfl (Nat.le_of_ble_eq_true rfl) rfl (fun z hz => nomatch hz) rfl (by decide) (pm_t1 (i := 173) rfl rfl) (pm_t2 (i := 193) rfl rfl) (Or.inl ⟨9, rfl, by decide, d_Lw_node_23⟩) d_Lw_node_25 rfl d_Lw_node_26 rfl
set_option maxHeartbeats 1000000 in
set_option maxRecDepth 20000 in
theorem lw_node_x2 {l : Launch} {G : pm_G} {fi f1 : Bool} {kc ks : Nat} {h h1 : pm_H} {fs : List Value} {p0 p1 p2 p3 p4 p5 p6 : Int32} (hl : l.stackTraces = false) (hb : h[0]? = some (pm_Ob 3 fs)) (en : pm_En l G fi f1 kc ks M_Gr_node [.ref (0), .int (p0), .int (p1), .int (p2), .int (p3), .int (p4), .int (p5), .int (p6)] h (.inr "java/lang/IllegalStateException", h1)) : pm_En l G fi f1 kc ks M_Lw_node [.ref (0), .int (p0), .int (p1), .int (p2), .int (p3), .int (p4), .int (p5), .int (p6), .ref (110)] h (.inl (some (.int 2)), h1) := by
  refine pm_En.of hl (by decide) (Nat.le_of_ble_eq_true rfl) ?_
  refine pm_aload (pc := 0) d_Lw_node_0 rfl ?_
  refine pm_iconst (v := 0) (pc := 2) d_Lw_node_2 rfl ?_
  refine pm_aload_n (pc := 3) d_Lw_node_3 rfl ?_
  refine pm_iload_n (pc := 4) d_Lw_node_4 rfl ?_
  refine pm_iload_n (pc := 5) d_Lw_node_5 rfl ?_
  refine pm_iload_n (pc := 6) d_Lw_node_6 rfl ?_
  refine pm_iload (pc := 7) d_Lw_node_7 rfl ?_
  refine pm_iload (pc := 9) d_Lw_node_9 rfl ?_
  refine pm_iload (pc := 11) d_Lw_node_11 rfl ?_
  refine pm_iload (pc := 13) d_Lw_node_13 rfl ?_
  exact pm_catch (b := 0) (ci := 3) (T := T_Gr) (N0 := 9) (len := 2) (E := "java/lang/IllegalStateException") (name := "java/lang/IllegalStateException") (pre := [(⟨0, 20, 23, 13⟩ : ExceptionTableEntry)]) (suf := []) (x := ⟨0, 20, 27, 23⟩) (k0 := 2) (w := 2) (av := [.int (p0), .int (p1), .int (p2), .int (p3), .int (p4), .int (p5), .int (p6)]) (st := [.int (0), .ref (110)]) cb_Lw_node_Gr_node tw_302 tw_303 tw_304 d_Lw_node_15 hb rfl en rfl rfl (Nat.le_of_ble_eq_true rfl) rfl (fun z hz => by have q := List.mem_singleton.mp hz; subst q; exact ⟨by decide, "java/lang/IllegalArgumentException", pm_t1 (i := 173) rfl rfl, by decide +kernel⟩) rfl (by decide) (pm_t1 (i := 301) rfl rfl) (pm_t2 (i := 316) rfl rfl) (Or.inl ⟨9, rfl, by decide, d_Lw_node_27⟩) d_Lw_node_29 rfl d_Lw_node_30 rfl
set_option maxHeartbeats 1000000 in
set_option maxRecDepth 20000 in
theorem lw_undo_ok {l : Launch} {G : pm_G} {fi f1 : Bool} {kc ks : Nat} {h h1 : pm_H} {fs : List Value} (hl : l.stackTraces = false) (hb : h[0]? = some (pm_Ob 3 fs)) (en : pm_En l G fi f1 kc ks M_Gr_undo [.ref (0)] h (.inl none, h1)) : pm_En l G fi f1 kc ks M_Lw_undo [.ref (0)] h (.inl (some (.int 0)), h1) := by
  refine pm_En.of hl (by decide) (Nat.le_of_ble_eq_true rfl) ?_
  refine pm_aload_n (pc := 0) d_Lw_undo_0 rfl ?_
  refine k_Lw_undo_1 (kc1 := kc) (ks1 := ks) (kc := 0) (ks := 0) (av := []) (st := []) hb en rfl rfl (Nat.le_of_ble_eq_true rfl) ?_
  refine pm_goto (tgt := 10) (pc := 4) d_Lw_undo_4 (by decide) ?_
  refine pm_iconst (v := 0) (pc := 10) d_Lw_undo_10 rfl ?_
  exact pm_iret (pc := 11) d_Lw_undo_11 rfl rfl
set_option maxHeartbeats 1000000 in
set_option maxRecDepth 20000 in
theorem lw_undo_x1 {l : Launch} {G : pm_G} {fi f1 : Bool} {kc ks : Nat} {h h1 : pm_H} {fs : List Value} (hl : l.stackTraces = false) (hb : h[0]? = some (pm_Ob 3 fs)) (en : pm_En l G fi f1 kc ks M_Gr_undo [.ref (0)] h (.inr "java/util/NoSuchElementException", h1)) : pm_En l G fi f1 kc ks M_Lw_undo [.ref (0)] h (.inl (some (.int 1)), h1) := by
  refine pm_En.of hl (by decide) (Nat.le_of_ble_eq_true rfl) ?_
  refine pm_aload_n (pc := 0) d_Lw_undo_0 rfl ?_
  exact pm_catch (b := 0) (ci := 3) (T := T_Gr) (N0 := 9) (len := 1) (E := "java/util/NoSuchElementException") (name := "java/util/NoSuchElementException") (pre := []) (suf := []) (x := ⟨0, 4, 7, 28⟩) (k0 := 1) (w := 1) (av := []) (st := []) cb_Lw_undo_Gr_undo tw_342 tw_343 tw_344 d_Lw_undo_1 hb rfl en rfl rfl (Nat.le_of_ble_eq_true rfl) rfl (fun z hz => nomatch hz) rfl (by decide) (pm_t1 (i := 341) rfl rfl) (pm_t2 (i := 348) rfl rfl) (Or.inr ⟨1, rfl, by decide, d_Lw_undo_7⟩) d_Lw_undo_8 rfl d_Lw_undo_9 rfl
set_option maxHeartbeats 1000000 in
set_option maxRecDepth 20000 in
theorem lw_prepare_ok {l : Launch} {G : pm_G} {fi f1 : Bool} {kc ks : Nat} {h h1 : pm_H} {fs : List Value} {v : Int32} {g : Nat → Int64} (hl : l.stackTraces = false) (hb : h[0]? = some (pm_Ob 3 fs)) (en : pm_En l G fi f1 kc ks M_Gr_prepare [.ref (0)] h (.inl (some (.int v)), h1)) (ho : h1[110]? = some (pm_Lg 1 g)) : pm_En l G fi f1 kc ks M_Lw_prepare [.ref (0), .ref (110)] h (.inl (some (.int 0)), h1.set 110 (pm_Lg 1 (va_up g 0 v.toInt64))) := by
  refine pm_En.of hl (by decide) (Nat.le_of_ble_eq_true rfl) ?_
  refine pm_aload_n (pc := 0) d_Lw_prepare_0 rfl ?_
  refine pm_iconst (v := 0) (pc := 1) d_Lw_prepare_1 rfl ?_
  refine pm_aload_n (pc := 2) d_Lw_prepare_2 rfl ?_
  refine k_Lw_prepare_3 (kc1 := kc) (ks1 := ks) (kc := 0) (ks := 0) (av := []) (st := [.int (0), .ref (110)]) hb en rfl rfl (Nat.le_of_ble_eq_true rfl) ?_
  refine pm_i2l (pc := 6) d_Lw_prepare_6 ?_
  refine pm_last (j := 0) (pc := 7) d_Lw_prepare_7 ho rfl (by decide) (by decide) ?_
  refine pm_goto (tgt := 17) (pc := 8) d_Lw_prepare_8 (by decide) ?_
  refine pm_iconst (v := 0) (pc := 17) d_Lw_prepare_17 rfl ?_
  exact pm_iret (pc := 18) d_Lw_prepare_18 rfl rfl
set_option maxHeartbeats 1000000 in
set_option maxRecDepth 20000 in
theorem lw_prepare_x1 {l : Launch} {G : pm_G} {fi f1 : Bool} {kc ks : Nat} {h h1 : pm_H} {fs : List Value} (hl : l.stackTraces = false) (hb : h[0]? = some (pm_Ob 3 fs)) (en : pm_En l G fi f1 kc ks M_Gr_prepare [.ref (0)] h (.inr "java/util/NoSuchElementException", h1)) : pm_En l G fi f1 kc ks M_Lw_prepare [.ref (0), .ref (110)] h (.inl (some (.int 1)), h1) := by
  refine pm_En.of hl (by decide) (Nat.le_of_ble_eq_true rfl) ?_
  refine pm_aload_n (pc := 0) d_Lw_prepare_0 rfl ?_
  refine pm_iconst (v := 0) (pc := 1) d_Lw_prepare_1 rfl ?_
  refine pm_aload_n (pc := 2) d_Lw_prepare_2 rfl ?_
  exact pm_catch (b := 0) (ci := 3) (T := T_Gr) (N0 := 9) (len := 1) (E := "java/util/NoSuchElementException") (name := "java/util/NoSuchElementException") (pre := []) (suf := [(⟨0, 8, 14, 34⟩ : ExceptionTableEntry)]) (x := ⟨0, 8, 11, 28⟩) (k0 := 1) (w := 1) (av := []) (st := [.int (0), .ref (110)]) cb_Lw_prepare_Gr_prepare tw_365 tw_366 tw_367 d_Lw_prepare_3 hb rfl en rfl rfl (Nat.le_of_ble_eq_true rfl) rfl (fun z hz => nomatch hz) rfl (by decide) (pm_t1 (i := 341) rfl rfl) (pm_t2 (i := 348) rfl rfl) (Or.inr ⟨2, rfl, by decide, d_Lw_prepare_11⟩) d_Lw_prepare_12 rfl d_Lw_prepare_13 rfl
set_option maxHeartbeats 1000000 in
set_option maxRecDepth 20000 in
theorem lw_prepare_x2 {l : Launch} {G : pm_G} {fi f1 : Bool} {kc ks : Nat} {h h1 : pm_H} {fs : List Value} (hl : l.stackTraces = false) (hb : h[0]? = some (pm_Ob 3 fs)) (en : pm_En l G fi f1 kc ks M_Gr_prepare [.ref (0)] h (.inr "java/lang/UnsupportedOperationException", h1)) : pm_En l G fi f1 kc ks M_Lw_prepare [.ref (0), .ref (110)] h (.inl (some (.int 2)), h1) := by
  refine pm_En.of hl (by decide) (Nat.le_of_ble_eq_true rfl) ?_
  refine pm_aload_n (pc := 0) d_Lw_prepare_0 rfl ?_
  refine pm_iconst (v := 0) (pc := 1) d_Lw_prepare_1 rfl ?_
  refine pm_aload_n (pc := 2) d_Lw_prepare_2 rfl ?_
  exact pm_catch (b := 0) (ci := 3) (T := T_Gr) (N0 := 9) (len := 1) (E := "java/lang/UnsupportedOperationException") (name := "java/lang/UnsupportedOperationException") (pre := [(⟨0, 8, 11, 28⟩ : ExceptionTableEntry)]) (suf := []) (x := ⟨0, 8, 14, 34⟩) (k0 := 2) (w := 2) (av := []) (st := [.int (0), .ref (110)]) cb_Lw_prepare_Gr_prepare tw_365 tw_366 tw_367 d_Lw_prepare_3 hb rfl en rfl rfl (Nat.le_of_ble_eq_true rfl) rfl (fun z hz => by have q := List.mem_singleton.mp hz; subst q; exact ⟨by decide, "java/util/NoSuchElementException", pm_t1 (i := 341) rfl rfl, by decide +kernel⟩) rfl (by decide) (pm_t1 (i := 364) rfl rfl) (pm_t2 (i := 424) rfl rfl) (Or.inr ⟨2, rfl, by decide, d_Lw_prepare_14⟩) d_Lw_prepare_15 rfl d_Lw_prepare_16 rfl
set_option maxHeartbeats 1000000 in
set_option maxRecDepth 20000 in
theorem lw_run_ok {l : Launch} {G : pm_G} {fi f1 : Bool} {kc ks : Nat} {h h1 : pm_H} {fs : List Value} {p0 : Int32} {v : Int32} {g : Nat → Int64} (hl : l.stackTraces = false) (hb : h[0]? = some (pm_Ob 3 fs)) (en : pm_En l G fi f1 kc ks M_Gr_run [.ref (0), .int (p0)] h (.inl (some (.int v)), h1)) (ho : h1[110]? = some (pm_Lg 1 g)) : pm_En l G fi f1 kc ks M_Lw_run [.ref (0), .int (p0), .ref (110)] h (.inl (some (.int 0)), h1.set 110 (pm_Lg 1 (va_up g 0 v.toInt64))) := by
  refine pm_En.of hl (by decide) (Nat.le_of_ble_eq_true rfl) ?_
  refine pm_aload_n (pc := 0) d_Lw_run_0 rfl ?_
  refine pm_iconst (v := 0) (pc := 1) d_Lw_run_1 rfl ?_
  refine pm_aload_n (pc := 2) d_Lw_run_2 rfl ?_
  refine pm_iload_n (pc := 3) d_Lw_run_3 rfl ?_
  refine k_Lw_run_4 (kc1 := kc) (ks1 := ks) (kc := 0) (ks := 0) (av := [.int (p0)]) (st := [.int (0), .ref (110)]) hb en rfl rfl (Nat.le_of_ble_eq_true rfl) ?_
  refine pm_i2l (pc := 7) d_Lw_run_7 ?_
  refine pm_last (j := 0) (pc := 8) d_Lw_run_8 ho rfl (by decide) (by decide) ?_
  refine pm_goto (tgt := 24) (pc := 9) d_Lw_run_9 (by decide) ?_
  refine pm_iconst (v := 0) (pc := 24) d_Lw_run_24 rfl ?_
  exact pm_iret (pc := 25) d_Lw_run_25 rfl rfl
set_option maxHeartbeats 1000000 in
set_option maxRecDepth 20000 in
theorem lw_run_x1 {l : Launch} {G : pm_G} {fi f1 : Bool} {kc ks : Nat} {h h1 : pm_H} {fs : List Value} {p0 : Int32} (hl : l.stackTraces = false) (hb : h[0]? = some (pm_Ob 3 fs)) (en : pm_En l G fi f1 kc ks M_Gr_run [.ref (0), .int (p0)] h (.inr "java/lang/IllegalArgumentException", h1)) : pm_En l G fi f1 kc ks M_Lw_run [.ref (0), .int (p0), .ref (110)] h (.inl (some (.int 1)), h1) := by
  refine pm_En.of hl (by decide) (Nat.le_of_ble_eq_true rfl) ?_
  refine pm_aload_n (pc := 0) d_Lw_run_0 rfl ?_
  refine pm_iconst (v := 0) (pc := 1) d_Lw_run_1 rfl ?_
  refine pm_aload_n (pc := 2) d_Lw_run_2 rfl ?_
  refine pm_iload_n (pc := 3) d_Lw_run_3 rfl ?_
  exact pm_catch (b := 0) (ci := 3) (T := T_Gr) (N0 := 9) (len := 1) (E := "java/lang/IllegalArgumentException") (name := "java/lang/IllegalArgumentException") (pre := []) (suf := [(⟨0, 9, 15, 23⟩ : ExceptionTableEntry), (⟨0, 9, 18, 40⟩ : ExceptionTableEntry), (⟨0, 9, 21, 42⟩ : ExceptionTableEntry)]) (x := ⟨0, 9, 12, 13⟩) (k0 := 1) (w := 1) (av := [.int (p0)]) (st := [.int (0), .ref (110)]) cb_Lw_run_Gr_run tw_536 tw_537 tw_538 d_Lw_run_4 hb rfl en rfl rfl (Nat.le_of_ble_eq_true rfl) rfl (fun z hz => nomatch hz) rfl (by decide) (pm_t1 (i := 173) rfl rfl) (pm_t2 (i := 193) rfl rfl) (Or.inr ⟨3, rfl, by decide, d_Lw_run_12⟩) d_Lw_run_13 rfl d_Lw_run_14 rfl
set_option maxHeartbeats 1000000 in
set_option maxRecDepth 20000 in
theorem lw_run_x2 {l : Launch} {G : pm_G} {fi f1 : Bool} {kc ks : Nat} {h h1 : pm_H} {fs : List Value} {p0 : Int32} (hl : l.stackTraces = false) (hb : h[0]? = some (pm_Ob 3 fs)) (en : pm_En l G fi f1 kc ks M_Gr_run [.ref (0), .int (p0)] h (.inr "java/lang/IllegalStateException", h1)) : pm_En l G fi f1 kc ks M_Lw_run [.ref (0), .int (p0), .ref (110)] h (.inl (some (.int 2)), h1) := by
  refine pm_En.of hl (by decide) (Nat.le_of_ble_eq_true rfl) ?_
  refine pm_aload_n (pc := 0) d_Lw_run_0 rfl ?_
  refine pm_iconst (v := 0) (pc := 1) d_Lw_run_1 rfl ?_
  refine pm_aload_n (pc := 2) d_Lw_run_2 rfl ?_
  refine pm_iload_n (pc := 3) d_Lw_run_3 rfl ?_
  exact pm_catch (b := 0) (ci := 3) (T := T_Gr) (N0 := 9) (len := 1) (E := "java/lang/IllegalStateException") (name := "java/lang/IllegalStateException") (pre := [(⟨0, 9, 12, 13⟩ : ExceptionTableEntry)]) (suf := [(⟨0, 9, 18, 40⟩ : ExceptionTableEntry), (⟨0, 9, 21, 42⟩ : ExceptionTableEntry)]) (x := ⟨0, 9, 15, 23⟩) (k0 := 2) (w := 2) (av := [.int (p0)]) (st := [.int (0), .ref (110)]) cb_Lw_run_Gr_run tw_536 tw_537 tw_538 d_Lw_run_4 hb rfl en rfl rfl (Nat.le_of_ble_eq_true rfl) rfl (fun z hz => by have q := List.mem_singleton.mp hz; subst q; exact ⟨by decide, "java/lang/IllegalArgumentException", pm_t1 (i := 173) rfl rfl, by decide +kernel⟩) rfl (by decide) (pm_t1 (i := 301) rfl rfl) (pm_t2 (i := 316) rfl rfl) (Or.inr ⟨3, rfl, by decide, d_Lw_run_15⟩) d_Lw_run_16 rfl d_Lw_run_17 rfl
set_option maxHeartbeats 1000000 in
set_option maxRecDepth 20000 in
theorem lw_run_x3 {l : Launch} {G : pm_G} {fi f1 : Bool} {kc ks : Nat} {h h1 : pm_H} {fs : List Value} {p0 : Int32} (hl : l.stackTraces = false) (hb : h[0]? = some (pm_Ob 3 fs)) (en : pm_En l G fi f1 kc ks M_Gr_run [.ref (0), .int (p0)] h (.inr "java/lang/ArithmeticException", h1)) : pm_En l G fi f1 kc ks M_Lw_run [.ref (0), .int (p0), .ref (110)] h (.inl (some (.int 3)), h1) := by
  refine pm_En.of hl (by decide) (Nat.le_of_ble_eq_true rfl) ?_
  refine pm_aload_n (pc := 0) d_Lw_run_0 rfl ?_
  refine pm_iconst (v := 0) (pc := 1) d_Lw_run_1 rfl ?_
  refine pm_aload_n (pc := 2) d_Lw_run_2 rfl ?_
  refine pm_iload_n (pc := 3) d_Lw_run_3 rfl ?_
  exact pm_catch (b := 0) (ci := 3) (T := T_Gr) (N0 := 9) (len := 1) (E := "java/lang/ArithmeticException") (name := "java/lang/ArithmeticException") (pre := [(⟨0, 9, 12, 13⟩ : ExceptionTableEntry), (⟨0, 9, 15, 23⟩ : ExceptionTableEntry)]) (suf := [(⟨0, 9, 21, 42⟩ : ExceptionTableEntry)]) (x := ⟨0, 9, 18, 40⟩) (k0 := 3) (w := 3) (av := [.int (p0)]) (st := [.int (0), .ref (110)]) cb_Lw_run_Gr_run tw_536 tw_537 tw_538 d_Lw_run_4 hb rfl en rfl rfl (Nat.le_of_ble_eq_true rfl) rfl (fun z hz => by { simp only [List.mem_cons, List.not_mem_nil, or_false] at hz; rcases hz with rfl | rfl; exact ⟨by decide, "java/lang/IllegalArgumentException", pm_t1 (i := 173) rfl rfl, by decide +kernel⟩; exact ⟨by decide, "java/lang/IllegalStateException", pm_t1 (i := 301) rfl rfl, by decide +kernel⟩ }) rfl (by decide) (pm_t1 (i := 534) rfl rfl) (pm_t2 (i := 567) rfl rfl) (Or.inr ⟨3, rfl, by decide, d_Lw_run_18⟩) d_Lw_run_19 rfl d_Lw_run_20 rfl
set_option maxHeartbeats 1000000 in
set_option maxRecDepth 20000 in
theorem lw_run_x4 {l : Launch} {G : pm_G} {fi f1 : Bool} {kc ks : Nat} {h h1 : pm_H} {fs : List Value} {p0 : Int32} (hl : l.stackTraces = false) (hb : h[0]? = some (pm_Ob 3 fs)) (en : pm_En l G fi f1 kc ks M_Gr_run [.ref (0), .int (p0)] h (.inr "java/lang/IndexOutOfBoundsException", h1)) : pm_En l G fi f1 kc ks M_Lw_run [.ref (0), .int (p0), .ref (110)] h (.inl (some (.int 4)), h1) := by
  refine pm_En.of hl (by decide) (Nat.le_of_ble_eq_true rfl) ?_
  refine pm_aload_n (pc := 0) d_Lw_run_0 rfl ?_
  refine pm_iconst (v := 0) (pc := 1) d_Lw_run_1 rfl ?_
  refine pm_aload_n (pc := 2) d_Lw_run_2 rfl ?_
  refine pm_iload_n (pc := 3) d_Lw_run_3 rfl ?_
  exact pm_catch (b := 0) (ci := 3) (T := T_Gr) (N0 := 9) (len := 1) (E := "java/lang/IndexOutOfBoundsException") (name := "java/lang/IndexOutOfBoundsException") (pre := [(⟨0, 9, 12, 13⟩ : ExceptionTableEntry), (⟨0, 9, 15, 23⟩ : ExceptionTableEntry), (⟨0, 9, 18, 40⟩ : ExceptionTableEntry)]) (suf := []) (x := ⟨0, 9, 21, 42⟩) (k0 := 4) (w := 4) (av := [.int (p0)]) (st := [.int (0), .ref (110)]) cb_Lw_run_Gr_run tw_536 tw_537 tw_538 d_Lw_run_4 hb rfl en rfl rfl (Nat.le_of_ble_eq_true rfl) rfl (fun z hz => by { simp only [List.mem_cons, List.not_mem_nil, or_false] at hz; rcases hz with rfl | rfl | rfl; exact ⟨by decide, "java/lang/IllegalArgumentException", pm_t1 (i := 173) rfl rfl, by decide +kernel⟩; exact ⟨by decide, "java/lang/IllegalStateException", pm_t1 (i := 301) rfl rfl, by decide +kernel⟩; exact ⟨by decide, "java/lang/ArithmeticException", pm_t1 (i := 534) rfl rfl, by decide +kernel⟩ }) rfl (by decide) (pm_t1 (i := 535) rfl rfl) (pm_t2 (i := 582) rfl rfl) (Or.inr ⟨3, rfl, by decide, d_Lw_run_21⟩) d_Lw_run_22 rfl d_Lw_run_23 rfl
set_option maxHeartbeats 1000000 in
set_option maxRecDepth 20000 in
theorem lw_get_ok {l : Launch} {G : pm_G} {fi f1 : Bool} {kc ks : Nat} {h h1 : pm_H} {fs : List Value} {p0 p1 p2 : Int32} {v : UInt64} {g : Nat → UInt64} (hl : l.stackTraces = false) (hb : h[0]? = some (pm_Ob 3 fs)) (en : pm_En l G fi f1 kc ks M_Gr_get [.ref (0), .int (p0), .int (p1), .int (p2)] h (.inl (some (.double v)), h1)) (ho : h1[111]? = some (pm_Dd 1 g)) : pm_En l G fi f1 kc ks M_Lw_get [.ref (0), .int (p0), .int (p1), .int (p2), .ref (111)] h (.inl (some (.int 0)), h1.set 111 (pm_Dd 1 (va_up g 0 v))) := by
  refine pm_En.of hl (by decide) (Nat.le_of_ble_eq_true rfl) ?_
  refine pm_aload (pc := 0) d_Lw_get_0 rfl ?_
  refine pm_iconst (v := 0) (pc := 2) d_Lw_get_2 rfl ?_
  refine pm_aload_n (pc := 3) d_Lw_get_3 rfl ?_
  refine pm_iload_n (pc := 4) d_Lw_get_4 rfl ?_
  refine pm_iload_n (pc := 5) d_Lw_get_5 rfl ?_
  refine pm_iload_n (pc := 6) d_Lw_get_6 rfl ?_
  refine k_Lw_get_7 (kc1 := kc) (ks1 := ks) (kc := 0) (ks := 0) (av := [.int (p0), .int (p1), .int (p2)]) (st := [.int (0), .ref (111)]) hb en rfl rfl (Nat.le_of_ble_eq_true rfl) ?_
  refine pm_dast (j := 0) (pc := 10) d_Lw_get_10 ho rfl (by decide) (by decide) ?_
  refine pm_goto (tgt := 22) (pc := 11) d_Lw_get_11 (by decide) ?_
  refine pm_iconst (v := 0) (pc := 22) d_Lw_get_22 rfl ?_
  exact pm_iret (pc := 23) d_Lw_get_23 rfl rfl
set_option maxHeartbeats 1000000 in
set_option maxRecDepth 20000 in
theorem lw_get_x1 {l : Launch} {G : pm_G} {fi f1 : Bool} {kc ks : Nat} {h h1 : pm_H} {fs : List Value} {p0 p1 p2 : Int32} (hl : l.stackTraces = false) (hb : h[0]? = some (pm_Ob 3 fs)) (en : pm_En l G fi f1 kc ks M_Gr_get [.ref (0), .int (p0), .int (p1), .int (p2)] h (.inr "java/lang/IllegalArgumentException", h1)) : pm_En l G fi f1 kc ks M_Lw_get [.ref (0), .int (p0), .int (p1), .int (p2), .ref (111)] h (.inl (some (.int 1)), h1) := by
  refine pm_En.of hl (by decide) (Nat.le_of_ble_eq_true rfl) ?_
  refine pm_aload (pc := 0) d_Lw_get_0 rfl ?_
  refine pm_iconst (v := 0) (pc := 2) d_Lw_get_2 rfl ?_
  refine pm_aload_n (pc := 3) d_Lw_get_3 rfl ?_
  refine pm_iload_n (pc := 4) d_Lw_get_4 rfl ?_
  refine pm_iload_n (pc := 5) d_Lw_get_5 rfl ?_
  refine pm_iload_n (pc := 6) d_Lw_get_6 rfl ?_
  exact pm_catch (b := 0) (ci := 3) (T := T_Gr) (N0 := 9) (len := 2) (E := "java/lang/IllegalArgumentException") (name := "java/lang/IllegalArgumentException") (pre := []) (suf := [(⟨0, 11, 18, 28⟩ : ExceptionTableEntry)]) (x := ⟨0, 11, 14, 13⟩) (k0 := 1) (w := 1) (av := [.int (p0), .int (p1), .int (p2)]) (st := [.int (0), .ref (111)]) cb_Lw_get_Gr_get tw_598 tw_599 tw_600 d_Lw_get_7 hb rfl en rfl rfl (Nat.le_of_ble_eq_true rfl) rfl (fun z hz => nomatch hz) rfl (by decide) (pm_t1 (i := 173) rfl rfl) (pm_t2 (i := 193) rfl rfl) (Or.inl ⟨5, rfl, by decide, d_Lw_get_14⟩) d_Lw_get_16 rfl d_Lw_get_17 rfl
set_option maxHeartbeats 1000000 in
set_option maxRecDepth 20000 in
theorem lw_get_x2 {l : Launch} {G : pm_G} {fi f1 : Bool} {kc ks : Nat} {h h1 : pm_H} {fs : List Value} {p0 p1 p2 : Int32} (hl : l.stackTraces = false) (hb : h[0]? = some (pm_Ob 3 fs)) (en : pm_En l G fi f1 kc ks M_Gr_get [.ref (0), .int (p0), .int (p1), .int (p2)] h (.inr "java/util/NoSuchElementException", h1)) : pm_En l G fi f1 kc ks M_Lw_get [.ref (0), .int (p0), .int (p1), .int (p2), .ref (111)] h (.inl (some (.int 2)), h1) := by
  refine pm_En.of hl (by decide) (Nat.le_of_ble_eq_true rfl) ?_
  refine pm_aload (pc := 0) d_Lw_get_0 rfl ?_
  refine pm_iconst (v := 0) (pc := 2) d_Lw_get_2 rfl ?_
  refine pm_aload_n (pc := 3) d_Lw_get_3 rfl ?_
  refine pm_iload_n (pc := 4) d_Lw_get_4 rfl ?_
  refine pm_iload_n (pc := 5) d_Lw_get_5 rfl ?_
  refine pm_iload_n (pc := 6) d_Lw_get_6 rfl ?_
  exact pm_catch (b := 0) (ci := 3) (T := T_Gr) (N0 := 9) (len := 2) (E := "java/util/NoSuchElementException") (name := "java/util/NoSuchElementException") (pre := [(⟨0, 11, 14, 13⟩ : ExceptionTableEntry)]) (suf := []) (x := ⟨0, 11, 18, 28⟩) (k0 := 2) (w := 2) (av := [.int (p0), .int (p1), .int (p2)]) (st := [.int (0), .ref (111)]) cb_Lw_get_Gr_get tw_598 tw_599 tw_600 d_Lw_get_7 hb rfl en rfl rfl (Nat.le_of_ble_eq_true rfl) rfl (fun z hz => by have q := List.mem_singleton.mp hz; subst q; exact ⟨by decide, "java/lang/IllegalArgumentException", pm_t1 (i := 173) rfl rfl, by decide +kernel⟩) rfl (by decide) (pm_t1 (i := 341) rfl rfl) (pm_t2 (i := 348) rfl rfl) (Or.inl ⟨5, rfl, by decide, d_Lw_get_18⟩) d_Lw_get_20 rfl d_Lw_get_21 rfl
set_option maxHeartbeats 1000000 in
set_option maxRecDepth 20000 in
theorem lw_slot_ok {l : Launch} {G : pm_G} {fi f1 : Bool} {kc ks : Nat} {h h1 : pm_H} {fs : List Value} {p0 p1 : Int32} {v : Int32} {g : Nat → Int64} (hl : l.stackTraces = false) (hb : h[0]? = some (pm_Ob 3 fs)) (en : pm_En l G fi f1 kc ks M_Gr_slot [.ref (0), .int (p0), .int (p1)] h (.inl (some (.int v)), h1)) (ho : h1[110]? = some (pm_Lg 1 g)) : pm_En l G fi f1 kc ks M_Lw_slot [.ref (0), .int (p0), .int (p1), .ref (110)] h (.inl (some (.int 0)), h1.set 110 (pm_Lg 1 (va_up g 0 v.toInt64))) := by
  refine pm_En.of hl (by decide) (Nat.le_of_ble_eq_true rfl) ?_
  refine pm_aload_n (pc := 0) d_Lw_slot_0 rfl ?_
  refine pm_iconst (v := 0) (pc := 1) d_Lw_slot_1 rfl ?_
  refine pm_aload_n (pc := 2) d_Lw_slot_2 rfl ?_
  refine pm_iload_n (pc := 3) d_Lw_slot_3 rfl ?_
  refine pm_iload_n (pc := 4) d_Lw_slot_4 rfl ?_
  refine k_Lw_slot_5 (kc1 := kc) (ks1 := ks) (kc := 0) (ks := 0) (av := [.int (p0), .int (p1)]) (st := [.int (0), .ref (110)]) hb en rfl rfl (Nat.le_of_ble_eq_true rfl) ?_
  refine pm_i2l (pc := 8) d_Lw_slot_8 ?_
  refine pm_last (j := 0) (pc := 9) d_Lw_slot_9 ho rfl (by decide) (by decide) ?_
  refine pm_goto (tgt := 21) (pc := 10) d_Lw_slot_10 (by decide) ?_
  refine pm_iconst (v := 0) (pc := 21) d_Lw_slot_21 rfl ?_
  exact pm_iret (pc := 22) d_Lw_slot_22 rfl rfl
set_option maxHeartbeats 1000000 in
set_option maxRecDepth 20000 in
theorem lw_slot_x1 {l : Launch} {G : pm_G} {fi f1 : Bool} {kc ks : Nat} {h h1 : pm_H} {fs : List Value} {p0 p1 : Int32} (hl : l.stackTraces = false) (hb : h[0]? = some (pm_Ob 3 fs)) (en : pm_En l G fi f1 kc ks M_Gr_slot [.ref (0), .int (p0), .int (p1)] h (.inr "java/lang/IllegalArgumentException", h1)) : pm_En l G fi f1 kc ks M_Lw_slot [.ref (0), .int (p0), .int (p1), .ref (110)] h (.inl (some (.int 1)), h1) := by
  refine pm_En.of hl (by decide) (Nat.le_of_ble_eq_true rfl) ?_
  refine pm_aload_n (pc := 0) d_Lw_slot_0 rfl ?_
  refine pm_iconst (v := 0) (pc := 1) d_Lw_slot_1 rfl ?_
  refine pm_aload_n (pc := 2) d_Lw_slot_2 rfl ?_
  refine pm_iload_n (pc := 3) d_Lw_slot_3 rfl ?_
  refine pm_iload_n (pc := 4) d_Lw_slot_4 rfl ?_
  exact pm_catch (b := 0) (ci := 3) (T := T_Gr) (N0 := 9) (len := 2) (E := "java/lang/IllegalArgumentException") (name := "java/lang/IllegalArgumentException") (pre := []) (suf := [(⟨0, 10, 17, 28⟩ : ExceptionTableEntry)]) (x := ⟨0, 10, 13, 13⟩) (k0 := 1) (w := 1) (av := [.int (p0), .int (p1)]) (st := [.int (0), .ref (110)]) cb_Lw_slot_Gr_slot tw_606 tw_607 tw_608 d_Lw_slot_5 hb rfl en rfl rfl (Nat.le_of_ble_eq_true rfl) rfl (fun z hz => nomatch hz) rfl (by decide) (pm_t1 (i := 173) rfl rfl) (pm_t2 (i := 193) rfl rfl) (Or.inl ⟨4, rfl, by decide, d_Lw_slot_13⟩) d_Lw_slot_15 rfl d_Lw_slot_16 rfl
set_option maxHeartbeats 1000000 in
set_option maxRecDepth 20000 in
theorem lw_slot_x2 {l : Launch} {G : pm_G} {fi f1 : Bool} {kc ks : Nat} {h h1 : pm_H} {fs : List Value} {p0 p1 : Int32} (hl : l.stackTraces = false) (hb : h[0]? = some (pm_Ob 3 fs)) (en : pm_En l G fi f1 kc ks M_Gr_slot [.ref (0), .int (p0), .int (p1)] h (.inr "java/util/NoSuchElementException", h1)) : pm_En l G fi f1 kc ks M_Lw_slot [.ref (0), .int (p0), .int (p1), .ref (110)] h (.inl (some (.int 2)), h1) := by
  refine pm_En.of hl (by decide) (Nat.le_of_ble_eq_true rfl) ?_
  refine pm_aload_n (pc := 0) d_Lw_slot_0 rfl ?_
  refine pm_iconst (v := 0) (pc := 1) d_Lw_slot_1 rfl ?_
  refine pm_aload_n (pc := 2) d_Lw_slot_2 rfl ?_
  refine pm_iload_n (pc := 3) d_Lw_slot_3 rfl ?_
  refine pm_iload_n (pc := 4) d_Lw_slot_4 rfl ?_
  exact pm_catch (b := 0) (ci := 3) (T := T_Gr) (N0 := 9) (len := 2) (E := "java/util/NoSuchElementException") (name := "java/util/NoSuchElementException") (pre := [(⟨0, 10, 13, 13⟩ : ExceptionTableEntry)]) (suf := []) (x := ⟨0, 10, 17, 28⟩) (k0 := 2) (w := 2) (av := [.int (p0), .int (p1)]) (st := [.int (0), .ref (110)]) cb_Lw_slot_Gr_slot tw_606 tw_607 tw_608 d_Lw_slot_5 hb rfl en rfl rfl (Nat.le_of_ble_eq_true rfl) rfl (fun z hz => by have q := List.mem_singleton.mp hz; subst q; exact ⟨by decide, "java/lang/IllegalArgumentException", pm_t1 (i := 173) rfl rfl, by decide +kernel⟩) rfl (by decide) (pm_t1 (i := 341) rfl rfl) (pm_t2 (i := 348) rfl rfl) (Or.inl ⟨4, rfl, by decide, d_Lw_slot_17⟩) d_Lw_slot_19 rfl d_Lw_slot_20 rfl
