/-! ===== the class: slots asked ===== -/
theorem pm_Cn.eq {l : Launch} {G : pm_G} {fi fo : Bool} {kc ks : Nat} {M : pm_M} {av : List Value} {h : pm_H} {x : pm_O × pm_H} (k : pm_Cn l G fi fo kc ks M av h (fun r => r = x)) : pm_En l G fi fo kc ks M av h x := by
  obtain ⟨r, rfl, e⟩ := k
  exact e
/-- numbers are as they must be -/
def gW (S : gS) : Prop := gG S 0 ≤ 14 ∧ gG S 1 ≤ 1 ∧ (∀ j, gO S j < 14) ∧ (∀ j, gP S j < 14) ∧ (∀ s, s < 20 → gK S s 0 ≤ 3 ∧ gK S s 1 < 14 ∧ gT S s 0 ≤ 1 ∧ 1 ≤ gT S s 1 ∧ gT S s 1 ≤ 4 ∧ 1 ≤ gT S s 2 ∧ gT S s 2 ≤ 4) ∧ (∀ n, n < 14 → gN S n 0 ≤ 3 ∧ gN S n 1 ≤ 18 ∧ gN S n 2 < 20 ∧ gN S n 3 ≤ 1 ∧ gN S n 4 ≤ 1 ∧ gN S n 5 ≤ 1)
theorem c_isSlot_in {l : Launch} {G : pm_G} {fi : Bool} {h : pm_H} {j : Nat} (hl : l.stackTraces = false) (hj : j < 20) : pm_En l G fi fi 0 0 M_Gr_isSlot [.int (nI j)] h (.inl (some (.int 1)), h) := by
  have k := c_Gr_isSlot (l := l) (G := G) (fi := fi) (h := h) (s := nI j) hl
  rw [if_pos ⟨nI_pos (by omega), fun q => absurd ((nI_leI (a := 20) (b := j) (by omega) (by omega)).mp q) (by omega)⟩] at k
  exact k
theorem c_isSlot_out {l : Launch} {G : pm_G} {fi : Bool} {h : pm_H} {s : Int32} (hl : l.stackTraces = false) (hs : s < 0 ∨ 20 ≤ s) : pm_En l G fi fi 0 0 M_Gr_isSlot [.int s] h (.inl (some (.int 0)), h) := by
  have k := c_Gr_isSlot (l := l) (G := G) (fi := fi) (h := h) (s := s) hl
  rw [if_neg (fun q => hs.elim q.1 q.2)] at k
  exact k
set_option maxHeartbeats 4000000 in
set_option maxRecDepth 20000 in
theorem c_isFree_in {l : Launch} {G : pm_G} {fi : Bool} {h : pm_H} {S : gS} {j : Nat} (hl : l.stackTraces = false) (H : gH S h) (hW : gW S) (hj : j < 20) : pm_En l G fi fi 0 0 M_Gr_isFree [.ref (0), .int (nI j)] h (.inl (some (.int (if gK S j 0 = 0 then 1 else 0))), h) := by
  refine pm_Cn.eq (pm_Cn.of hl (by decide) (Nat.le_of_ble_eq_true rfl) ?_)
  obtain ⟨b1, b2, b3, b4, b5, b6⟩ := id hW
  have bj := b5 j hj
  refine px (fun _ => pm_iload_n (pc := 0) d_Gr_isFree_0 rfl) ?_
  refine px (fun _ => k_Gr_isFree_1 (kc1 := 0) (ks1 := 0) (kc := 0) (ks := 0) (av := [.int (nI j)]) (st := []) (c_isSlot_in hl hj) rfl rfl (Nat.le_of_ble_eq_true rfl)) ?_
  refine pxb (fun _ => pm_if_eq (pc := 4) (tgt := 23) d_Gr_isFree_4 (by decide)) (fun c_1 => absurd c_1 (by decide)) (fun c_1 => ?_)
  refine px (fun _ => pm_aload_n (pc := 7) d_Gr_isFree_7 rfl) ?_
  refine px (fun _ => pm_getf fl_Gr_11 (pc := 8) d_Gr_isFree_8 H.1 rfl) ?_
  refine px (fun _ => pm_iload_n (pc := 11) d_Gr_isFree_11 rfl) ?_
  obtain ⟨f_2, hf_3, gf_4⟩ := id H.2.1
  refine px (fun _ => pm_aald (kd := 3) (Cn := "GraphRunner$Slot") (j := j) (pc := 12) d_Gr_isFree_12 (fun _ => rfl) hf_3 (rfl) (hj) (by decide) (gf_4 j hj)) ?_
  refine px (fun _ => pm_getf fl_Gr_64 (pc := 13) d_Gr_isFree_13 (H.2.2.2.2.2.2.1 j hj).1 rfl) ?_
  refine pxn (fun _ => pm_if_ne (pc := 16) (tgt := 23) d_Gr_isFree_16 (by decide)) (fun c_5 => ?_) (fun c_5 => ?_)
  · have n_c_5 : ¬ ((gK S j 0) = 0) := fun q => c_5 ((nI_eq (a := (gK S j 0)) (b := 0) (by omega) (by omega)).mpr q)
    refine px (fun _ => pm_iconst (v := 0) (pc := 23) d_Gr_isFree_23 rfl) ?_
    exact pxr (pm_iret (pc := 24) d_Gr_isFree_24 rfl rfl) (by rw [if_neg (by omega)])
  · have n_c_5 : (gK S j 0) = 0 := (nI_eq (a := (gK S j 0)) (b := 0) (by omega) (by omega)).mp c_5
    refine px (fun _ => pm_iconst (v := 1) (pc := 19) d_Gr_isFree_19 rfl) ?_
    refine px (fun _ => pm_goto (tgt := 24) (pc := 20) d_Gr_isFree_20 (by decide)) ?_
    exact pxr (pm_iret (pc := 24) d_Gr_isFree_24 rfl rfl) (by rw [if_pos (by omega)])
theorem c_isFree_out {l : Launch} {G : pm_G} {fi : Bool} {h : pm_H} {s : Int32} (hl : l.stackTraces = false) (hs : s < 0 ∨ 20 ≤ s) : pm_En l G fi fi 0 0 M_Gr_isFree [.ref 0, .int s] h (.inl (some (.int 0)), h) := by
  refine pm_Cn.eq (pm_Cn.of hl (by decide) (Nat.le_of_ble_eq_true rfl) ?_)
  refine px (fun _ => pm_iload_n (pc := 0) d_Gr_isFree_0 rfl) ?_
  refine px (fun _ => k_Gr_isFree_1 (kc1 := 0) (ks1 := 0) (kc := 0) (ks := 0) (av := [.int (s)]) (st := []) (c_isSlot_out hl hs) rfl rfl (Nat.le_of_ble_eq_true rfl)) ?_
  refine pxb (fun _ => pm_if_eq (pc := 4) (tgt := 23) d_Gr_isFree_4 (by decide)) (fun c_1 => ?_) (fun c_1 => absurd (by decide) c_1)
  refine px (fun _ => pm_iconst (v := 0) (pc := 23) d_Gr_isFree_23 rfl) ?_
  exact pxr (pm_iret (pc := 24) d_Gr_isFree_24 rfl rfl) rfl
set_option maxHeartbeats 4000000 in
set_option maxRecDepth 20000 in
theorem c_isFed {l : Launch} {G : pm_G} {fi : Bool} {h : pm_H} {S : gS} {j : Nat} (hl : l.stackTraces = false) (H : gH S h) (hW : gW S) (hj : j < 20) : pm_En l G fi fi 0 0 M_Gr_isFed [.ref (0), .int (nI j)] h (.inl (some (.int (if gK S j 0 = 1 ∨ gK S j 0 = 2 then 1 else 0))), h) := by
  refine pm_Cn.eq (pm_Cn.of hl (by decide) (Nat.le_of_ble_eq_true rfl) ?_)
  obtain ⟨b1, b2, b3, b4, b5, b6⟩ := id hW
  have bj := b5 j hj
  refine px (fun _ => pm_aload_n (pc := 0) d_Gr_isFed_0 rfl) ?_
  refine px (fun _ => pm_getf fl_Gr_11 (pc := 1) d_Gr_isFed_1 H.1 rfl) ?_
  refine px (fun _ => pm_iload_n (pc := 4) d_Gr_isFed_4 rfl) ?_
  obtain ⟨f_1, hf_2, gf_3⟩ := id H.2.1
  refine px (fun _ => pm_aald (kd := 3) (Cn := "GraphRunner$Slot") (j := j) (pc := 5) d_Gr_isFed_5 (fun _ => rfl) hf_2 (rfl) (hj) (by decide) (gf_3 j hj)) ?_
  refine px (fun _ => pm_getf fl_Gr_64 (pc := 6) d_Gr_isFed_6 (H.2.2.2.2.2.2.1 j hj).1 rfl) ?_
  refine px (fun _ => pm_iconst (v := 1) (pc := 9) d_Gr_isFed_9 rfl) ?_
  refine pxb (fun _ => pm_icmp_eq (pc := 10) (tgt := 26) d_Gr_isFed_10 (by decide)) (fun c_4 => ?_) (fun c_4 => ?_)
  · have n_c_4 : (gK S j 0) = 1 := (nI_eq (a := (gK S j 0)) (b := 1) (by omega) (by omega)).mp c_4
    refine px (fun _ => pm_iconst (v := 1) (pc := 26) d_Gr_isFed_26 rfl) ?_
    refine px (fun _ => pm_goto (tgt := 31) (pc := 27) d_Gr_isFed_27 (by decide)) ?_
    exact pxr (pm_iret (pc := 31) d_Gr_isFed_31 rfl rfl) (by rw [if_pos (by omega)])
  · have n_c_4 : ¬ ((gK S j 0) = 1) := fun q => c_4 ((nI_eq (a := (gK S j 0)) (b := 1) (by omega) (by omega)).mpr q)
    refine px (fun _ => pm_aload_n (pc := 13) d_Gr_isFed_13 rfl) ?_
    refine px (fun _ => pm_getf fl_Gr_11 (pc := 14) d_Gr_isFed_14 H.1 rfl) ?_
    refine px (fun _ => pm_iload_n (pc := 17) d_Gr_isFed_17 rfl) ?_
    obtain ⟨f_5, hf_6, gf_7⟩ := id H.2.1
    refine px (fun _ => pm_aald (kd := 3) (Cn := "GraphRunner$Slot") (j := j) (pc := 18) d_Gr_isFed_18 (fun _ => rfl) hf_6 (rfl) (hj) (by decide) (gf_7 j hj)) ?_
    refine px (fun _ => pm_getf fl_Gr_64 (pc := 19) d_Gr_isFed_19 (H.2.2.2.2.2.2.1 j hj).1 rfl) ?_
    refine px (fun _ => pm_iconst (v := 2) (pc := 22) d_Gr_isFed_22 rfl) ?_
    refine pxn (fun _ => pm_icmp_ne (pc := 23) (tgt := 30) d_Gr_isFed_23 (by decide)) (fun c_8 => ?_) (fun c_8 => ?_)
    · have n_c_8 : ¬ ((gK S j 0) = 2) := fun q => c_8 ((nI_eq (a := (gK S j 0)) (b := 2) (by omega) (by omega)).mpr q)
      refine px (fun _ => pm_iconst (v := 0) (pc := 30) d_Gr_isFed_30 rfl) ?_
      exact pxr (pm_iret (pc := 31) d_Gr_isFed_31 rfl rfl) (by rw [if_neg (by omega)])
    · have n_c_8 : (gK S j 0) = 2 := (nI_eq (a := (gK S j 0)) (b := 2) (by omega) (by omega)).mp c_8
      refine px (fun _ => pm_iconst (v := 1) (pc := 26) d_Gr_isFed_26 rfl) ?_
      refine px (fun _ => pm_goto (tgt := 31) (pc := 27) d_Gr_isFed_27 (by decide)) ?_
      exact pxr (pm_iret (pc := 31) d_Gr_isFed_31 rfl rfl) (by rw [if_pos (by omega)])
