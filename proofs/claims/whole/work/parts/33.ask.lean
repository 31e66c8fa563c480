/-! ===== the class: slots asked ===== -/
theorem pm_Cn.eq {l : Launch} {G : pm_G} {fi fo : Bool} {kc ks : Nat} {M : pm_M} {av : List Value} {h : pm_H} {x : pm_O × pm_H} (k : pm_Cn l G fi fo kc ks M av h (fun r => r = x)) : pm_En l G fi fo kc ks M av h x := by
  obtain ⟨r, rfl, e⟩ := k
  exact e
theorem g_if0 {C : Prop} [Decidable C] : (if C then (1 : Int32) else 0) = 0 ↔ ¬ C := by
  by_cases c : C
  · simp [c]
  · simp [c]
/-- numbers are as they must be -/
def gW (S : gS) : Prop := gG S 0 ≤ 14 ∧ gG S 1 ≤ 1 ∧ (∀ j, gO S j < 14) ∧ (∀ j, gP S j < 14) ∧ (∀ s, s < 20 → gK S s 0 ≤ 3 ∧ gK S s 1 < 14 ∧ gT S s 0 ≤ 1 ∧ 1 ≤ gT S s 1 ∧ gT S s 1 ≤ 4 ∧ 1 ≤ gT S s 2 ∧ gT S s 2 ≤ 4) ∧ (∀ n, n < 14 → gN S n 0 ≤ 3 ∧ gN S n 1 ≤ 18 ∧ gN S n 2 < 20 ∧ gN S n 3 ≤ 1 ∧ gN S n 4 ≤ 1 ∧ gN S n 5 ≤ 1)
theorem c_isSlot_in {l : Launch} {G : pm_G} {fi : Bool} {h : pm_H} {j : Nat} (hl : l.stackTraces = false) (hj : j < 20) : pm_En l G fi fi 0 0 M_Gr_isSlot [.int (nI j)] h (.inl (some (.int 1)), h) := by
  have k := c_Gr_isSlot (l := l) (G := G) (fi := fi) (h := h) (s := nI j) hl
  rw [if_pos ⟨nI_pos (by omega), fun q => absurd ((nI_leI (a := 20) (b := j) (by omega) (by omega)).mp q) (by omega)⟩] at k
  exact k
theorem c_isSlot_out {l : Launch} {G : pm_G} {fi : Bool} {h : pm_H} {s : Int32} (hl : l.stackTraces = false) (hs : s < 0 ∨ 20 ≤ s) : pm_En l G fi fi 0 0 M_Gr_isSlot [.int s] h (.inl (some (.int 0)), h) := by
  have k := c_Gr_isSlot (l := l) (G := G) (fi := fi) (h := h) (s := s) hl
  rw [if_neg (fun q => hs.elim q.1 q.2)] at k
  exact k
set_option maxHeartbeats 4000000 in
set_option maxRecDepth 20000 in
theorem c_isFree_in {l : Launch} {G : pm_G} {fi : Bool} {h : pm_H} {S : gS} {j : Nat} (hl : l.stackTraces = false) (H : gH S h) (hW : gW S) (hj : j < 20) : pm_En l G fi fi 0 0 M_Gr_isFree [.ref (0), .int (nI j)] h (.inl (some (.int (if gK S j 0 = 0 then 1 else 0))), h) := by
  refine pm_Cn.eq (pm_Cn.of hl (by decide) (Nat.le_of_ble_eq_true rfl) ?_)
  obtain ⟨b1, b2, b3, b4, b5, b6⟩ := id hW
  have bj := b5 j hj
  refine px (fun _ => pm_iload_n (pc := 0) d_Gr_isFree_0 rfl) ?_
  refine px (fun _ => k_Gr_isFree_1 (kc1 := 0) (ks1 := 0) (kc := 0) (ks := 0) (av := [.int (nI j)]) (st := []) (c_isSlot_in hl hj) rfl rfl (Nat.le_of_ble_eq_true rfl)) ?_
  refine pxb (fun _ => pm_if_eq (pc := 4) (tgt := 23) d_Gr_isFree_4 (by decide)) (fun c_1 => absurd c_1 (by decide)) (fun c_1 => ?_)
  refine px (fun _ => pm_aload_n (pc := 7) d_Gr_isFree_7 rfl) ?_
  refine px (fun _ => pm_getf fl_Gr_11 (pc := 8) d_Gr_isFree_8 H.1 rfl) ?_
  refine px (fun _ => pm_iload_n (pc := 11) d_Gr_isFree_11 rfl) ?_
  obtain ⟨f_2, hf_3, gf_4⟩ := id H.2.1
  refine px (fun _ => pm_aald (kd := 3) (Cn := "GraphRunner$Slot") (j := j) (pc := 12) d_Gr_isFree_12 (fun _ => rfl) hf_3 (rfl) (hj) (by decide) (gf_4 j hj)) ?_
  refine px (fun _ => pm_getf fl_Gr_64 (pc := 13) d_Gr_isFree_13 (H.2.2.2.2.2.2.1 j hj).1 rfl) ?_
  refine pxn (fun _ => pm_if_ne (pc := 16) (tgt := 23) d_Gr_isFree_16 (by decide)) (fun c_5 => ?_) (fun c_5 => ?_)
  · have n_c_5 : ¬ ((gK S j 0) = 0) := fun q => c_5 ((nI_eq (a := (gK S j 0)) (b := 0) (by omega) (by omega)).mpr q)
    refine px (fun _ => pm_iconst (v := 0) (pc := 23) d_Gr_isFree_23 rfl) ?_
    exact pxr (pm_iret (pc := 24) d_Gr_isFree_24 rfl rfl) (by rw [if_neg (by omega)])
  · have n_c_5 : (gK S j 0) = 0 := (nI_eq (a := (gK S j 0)) (b := 0) (by omega) (by omega)).mp c_5
    refine px (fun _ => pm_iconst (v := 1) (pc := 19) d_Gr_isFree_19 rfl) ?_
    refine px (fun _ => pm_goto (tgt := 24) (pc := 20) d_Gr_isFree_20 (by decide)) ?_
    exact pxr (pm_iret (pc := 24) d_Gr_isFree_24 rfl rfl) (by rw [if_pos (by omega)])
theorem c_isFree_out {l : Launch} {G : pm_G} {fi : Bool} {h : pm_H} {s : Int32} (hl : l.stackTraces = false) (hs : s < 0 ∨ 20 ≤ s) : pm_En l G fi fi 0 0 M_Gr_isFree [.ref 0, .int s] h (.inl (some (.int 0)), h) := by
  refine pm_Cn.eq (pm_Cn.of hl (by decide) (Nat.le_of_ble_eq_true rfl) ?_)
  refine px (fun _ => pm_iload_n (pc := 0) d_Gr_isFree_0 rfl) ?_
  refine px (fun _ => k_Gr_isFree_1 (kc1 := 0) (ks1 := 0) (kc := 0) (ks := 0) (av := [.int (s)]) (st := []) (c_isSlot_out hl hs) rfl rfl (Nat.le_of_ble_eq_true rfl)) ?_
  refine pxb (fun _ => pm_if_eq (pc := 4) (tgt := 23) d_Gr_isFree_4 (by decide)) (fun c_1 => ?_) (fun c_1 => absurd (by decide) c_1)
  refine px (fun _ => pm_iconst (v := 0) (pc := 23) d_Gr_isFree_23 rfl) ?_
  exact pxr (pm_iret (pc := 24) d_Gr_isFree_24 rfl rfl) rfl
set_option maxHeartbeats 4000000 in
set_option maxRecDepth 20000 in
theorem c_isFed {l : Launch} {G : pm_G} {fi : Bool} {h : pm_H} {S : gS} {j : Nat} (hl : l.stackTraces = false) (H : gH S h) (hW : gW S) (hj : j < 20) : pm_En l G fi fi 0 0 M_Gr_isFed [.ref (0), .int (nI j)] h (.inl (some (.int (if gK S j 0 = 1 ∨ gK S j 0 = 2 then 1 else 0))), h) := by
  refine pm_Cn.eq (pm_Cn.of hl (by decide) (Nat.le_of_ble_eq_true rfl) ?_)
  obtain ⟨b1, b2, b3, b4, b5, b6⟩ := id hW
  have bj := b5 j hj
  refine px (fun _ => pm_aload_n (pc := 0) d_Gr_isFed_0 rfl) ?_
  refine px (fun _ => pm_getf fl_Gr_11 (pc := 1) d_Gr_isFed_1 H.1 rfl) ?_
  refine px (fun _ => pm_iload_n (pc := 4) d_Gr_isFed_4 rfl) ?_
  obtain ⟨f_1, hf_2, gf_3⟩ := id H.2.1
  refine px (fun _ => pm_aald (kd := 3) (Cn := "GraphRunner$Slot") (j := j) (pc := 5) d_Gr_isFed_5 (fun _ => rfl) hf_2 (rfl) (hj) (by decide) (gf_3 j hj)) ?_
  refine px (fun _ => pm_getf fl_Gr_64 (pc := 6) d_Gr_isFed_6 (H.2.2.2.2.2.2.1 j hj).1 rfl) ?_
  refine px (fun _ => pm_iconst (v := 1) (pc := 9) d_Gr_isFed_9 rfl) ?_
  refine pxb (fun _ => pm_icmp_eq (pc := 10) (tgt := 26) d_Gr_isFed_10 (by decide)) (fun c_4 => ?_) (fun c_4 => ?_)
  · have n_c_4 : (gK S j 0) = 1 := (nI_eq (a := (gK S j 0)) (b := 1) (by omega) (by omega)).mp c_4
    refine px (fun _ => pm_iconst (v := 1) (pc := 26) d_Gr_isFed_26 rfl) ?_
    refine px (fun _ => pm_goto (tgt := 31) (pc := 27) d_Gr_isFed_27 (by decide)) ?_
    exact pxr (pm_iret (pc := 31) d_Gr_isFed_31 rfl rfl) (by rw [if_pos (by omega)])
  · have n_c_4 : ¬ ((gK S j 0) = 1) := fun q => c_4 ((nI_eq (a := (gK S j 0)) (b := 1) (by omega) (by omega)).mpr q)
    refine px (fun _ => pm_aload_n (pc := 13) d_Gr_isFed_13 rfl) ?_
    refine px (fun _ => pm_getf fl_Gr_11 (pc := 14) d_Gr_isFed_14 H.1 rfl) ?_
    refine px (fun _ => pm_iload_n (pc := 17) d_Gr_isFed_17 rfl) ?_
    obtain ⟨f_5, hf_6, gf_7⟩ := id H.2.1
    refine px (fun _ => pm_aald (kd := 3) (Cn := "GraphRunner$Slot") (j := j) (pc := 18) d_Gr_isFed_18 (fun _ => rfl) hf_6 (rfl) (hj) (by decide) (gf_7 j hj)) ?_
    refine px (fun _ => pm_getf fl_Gr_64 (pc := 19) d_Gr_isFed_19 (H.2.2.2.2.2.2.1 j hj).1 rfl) ?_
    refine px (fun _ => pm_iconst (v := 2) (pc := 22) d_Gr_isFed_22 rfl) ?_
    refine pxn (fun _ => pm_icmp_ne (pc := 23) (tgt := 30) d_Gr_isFed_23 (by decide)) (fun c_8 => ?_) (fun c_8 => ?_)
    · have n_c_8 : ¬ ((gK S j 0) = 2) := fun q => c_8 ((nI_eq (a := (gK S j 0)) (b := 2) (by omega) (by omega)).mpr q)
      refine px (fun _ => pm_iconst (v := 0) (pc := 30) d_Gr_isFed_30 rfl) ?_
      exact pxr (pm_iret (pc := 31) d_Gr_isFed_31 rfl rfl) (by rw [if_neg (by omega)])
    · have n_c_8 : (gK S j 0) = 2 := (nI_eq (a := (gK S j 0)) (b := 2) (by omega) (by omega)).mp c_8
      refine px (fun _ => pm_iconst (v := 1) (pc := 26) d_Gr_isFed_26 rfl) ?_
      refine px (fun _ => pm_goto (tgt := 31) (pc := 27) d_Gr_isFed_27 (by decide)) ?_
      exact pxr (pm_iret (pc := 31) d_Gr_isFed_31 rfl rfl) (by rw [if_pos (by omega)])
set_option maxHeartbeats 4000000 in
set_option maxRecDepth 20000 in
theorem c_isOrdered {l : Launch} {G : pm_G} {fi : Bool} {h : pm_H} {S : gS} {j : Nat} (hl : l.stackTraces = false) (H : gH S h) (hW : gW S) (hj : j < 20) : pm_En l G fi fi 0 0 M_Gr_isOrdered [.ref (0), .int (nI j)] h (.inl (some (.int (if (gK S j 0 = 1 ∨ gK S j 0 = 2) ∨ gK S j 0 = 3 ∧ gN S (gK S j 1) 3 = 1 then 1 else 0))), h) := by
  refine pm_Cn.eq (pm_Cn.of hl (by decide) (Nat.le_of_ble_eq_true rfl) ?_)
  obtain ⟨b1, b2, b3, b4, b5, b6⟩ := id hW
  have bj := b5 j hj
  have bn := b6 (gK S j 1) bj.2.1
  refine px (fun _ => pm_aload_n (pc := 0) d_Gr_isOrdered_0 rfl) ?_
  refine px (fun _ => pm_iload_n (pc := 1) d_Gr_isOrdered_1 rfl) ?_
  refine px (fun _ => k_Gr_isOrdered_2 (kc1 := 0) (ks1 := 0) (kc := 0) (ks := 0) (av := [.int (nI j)]) (st := []) H.1 (c_isFed hl H hW hj) rfl rfl (Nat.le_of_ble_eq_true rfl)) ?_
  refine pxn (fun _ => pm_if_ne (pc := 5) (tgt := 41) d_Gr_isOrdered_5 (by decide)) (fun c_1 => ?_) (fun c_1 => ?_)
  · have n_c_1 : gK S j 0 = 1 ∨ gK S j 0 = 2 := Decidable.byContradiction fun q => c_1 (g_if0.mpr q)
    refine px (fun _ => pm_iconst (v := 1) (pc := 41) d_Gr_isOrdered_41 rfl) ?_
    refine px (fun _ => pm_goto (tgt := 46) (pc := 42) d_Gr_isOrdered_42 (by decide)) ?_
    exact pxr (pm_iret (pc := 46) d_Gr_isOrdered_46 rfl rfl) (by rw [if_pos (by omega)])
  · have n_c_1 : ¬ (gK S j 0 = 1 ∨ gK S j 0 = 2) := g_if0.mp c_1
    refine px (fun _ => pm_aload_n (pc := 8) d_Gr_isOrdered_8 rfl) ?_
    refine px (fun _ => pm_getf fl_Gr_11 (pc := 9) d_Gr_isOrdered_9 H.1 rfl) ?_
    refine px (fun _ => pm_iload_n (pc := 12) d_Gr_isOrdered_12 rfl) ?_
    obtain ⟨f_2, hf_3, gf_4⟩ := id H.2.1
    refine px (fun _ => pm_aald (kd := 3) (Cn := "GraphRunner$Slot") (j := j) (pc := 13) d_Gr_isOrdered_13 (fun _ => rfl) hf_3 (rfl) (hj) (by decide) (gf_4 j hj)) ?_
    refine px (fun _ => pm_getf fl_Gr_64 (pc := 14) d_Gr_isOrdered_14 (H.2.2.2.2.2.2.1 j hj).1 rfl) ?_
    refine px (fun _ => pm_iconst (v := 3) (pc := 17) d_Gr_isOrdered_17 rfl) ?_
    refine pxn (fun _ => pm_icmp_ne (pc := 18) (tgt := 45) d_Gr_isOrdered_18 (by decide)) (fun c_5 => ?_) (fun c_5 => ?_)
    · have n_c_5 : ¬ ((gK S j 0) = 3) := fun q => c_5 ((nI_eq (a := (gK S j 0)) (b := 3) (by omega) (by omega)).mpr q)
      refine px (fun _ => pm_iconst (v := 0) (pc := 45) d_Gr_isOrdered_45 rfl) ?_
      exact pxr (pm_iret (pc := 46) d_Gr_isOrdered_46 rfl rfl) (by rw [if_neg (by omega)])
    · have n_c_5 : (gK S j 0) = 3 := (nI_eq (a := (gK S j 0)) (b := 3) (by omega) (by omega)).mp c_5
      refine px (fun _ => pm_aload_n (pc := 21) d_Gr_isOrdered_21 rfl) ?_
      refine px (fun _ => pm_getf fl_Gr_17 (pc := 22) d_Gr_isOrdered_22 H.1 rfl) ?_
      refine px (fun _ => pm_aload_n (pc := 25) d_Gr_isOrdered_25 rfl) ?_
      refine px (fun _ => pm_getf fl_Gr_11 (pc := 26) d_Gr_isOrdered_26 H.1 rfl) ?_
      refine px (fun _ => pm_iload_n (pc := 29) d_Gr_isOrdered_29 rfl) ?_
      obtain ⟨f_6, hf_7, gf_8⟩ := id H.2.1
      refine px (fun _ => pm_aald (kd := 3) (Cn := "GraphRunner$Slot") (j := j) (pc := 30) d_Gr_isOrdered_30 (fun _ => rfl) hf_7 (rfl) (hj) (by decide) (gf_8 j hj)) ?_
      refine px (fun _ => pm_getf fl_Gr_125 (pc := 31) d_Gr_isOrdered_31 (H.2.2.2.2.2.2.1 j hj).1 rfl) ?_
      obtain ⟨f_9, hf_10, gf_11⟩ := id H.2.2.1
      refine px (fun _ => pm_aald (kd := 4) (Cn := "GraphRunner$Node") (j := gK S j 1) (pc := 34) d_Gr_isOrdered_34 (fun _ => rfl) hf_10 (rfl) (bj.2.1) (by decide) (gf_11 (gK S j 1) bj.2.1)) ?_
      refine px (fun _ => pm_getf fl_Gr_184 (pc := 35) d_Gr_isOrdered_35 (H.2.2.2.2.2.2.2 (gK S j 1) bj.2.1).1 rfl) ?_
      refine pxb (fun _ => pm_if_eq (pc := 38) (tgt := 45) d_Gr_isOrdered_38 (by decide)) (fun c_12 => ?_) (fun c_12 => ?_)
      · have n_c_12 : (gN S (gK S j 1) 3) = 0 := (nI_eq (a := (gN S (gK S j 1) 3)) (b := 0) (by omega) (by omega)).mp c_12
        refine px (fun _ => pm_iconst (v := 0) (pc := 45) d_Gr_isOrdered_45 rfl) ?_
        exact pxr (pm_iret (pc := 46) d_Gr_isOrdered_46 rfl rfl) (by rw [if_neg (by omega)])
      · have n_c_12 : ¬ ((gN S (gK S j 1) 3) = 0) := fun q => c_12 ((nI_eq (a := (gN S (gK S j 1) 3)) (b := 0) (by omega) (by omega)).mpr q)
        refine px (fun _ => pm_iconst (v := 1) (pc := 41) d_Gr_isOrdered_41 rfl) ?_
        refine px (fun _ => pm_goto (tgt := 46) (pc := 42) d_Gr_isOrdered_42 (by decide)) ?_
        exact pxr (pm_iret (pc := 46) d_Gr_isOrdered_46 rfl rfl) (by rw [if_pos (by omega)])
set_option maxHeartbeats 4000000 in
set_option maxRecDepth 20000 in
theorem c_isCoF {l : Launch} {G : pm_G} {fi : Bool} {h : pm_H} {S : gS} {j : Nat} (hl : l.stackTraces = false) (H : gH S h) (hW : gW S) (hj : j < 20) : pm_En l G fi fi 0 0 M_Gr_isConstantOrFolded [.ref (0), .int (nI j)] h (.inl (some (.int (if gK S j 0 = 2 ∨ gK S j 0 = 3 ∧ gN S (gK S j 1) 4 = 1 then 1 else 0))), h) := by
  refine pm_Cn.eq (pm_Cn.of hl (by decide) (Nat.le_of_ble_eq_true rfl) ?_)
  obtain ⟨b1, b2, b3, b4, b5, b6⟩ := id hW
  have bj := b5 j hj
  have bn := b6 (gK S j 1) bj.2.1
  refine px (fun _ => pm_aload_n (pc := 0) d_Gr_isConstantOrFolded_0 rfl) ?_
  refine px (fun _ => pm_getf fl_Gr_11 (pc := 1) d_Gr_isConstantOrFolded_1 H.1 rfl) ?_
  refine px (fun _ => pm_iload_n (pc := 4) d_Gr_isConstantOrFolded_4 rfl) ?_
  obtain ⟨f_1, hf_2, gf_3⟩ := id H.2.1
  refine px (fun _ => pm_aald (kd := 3) (Cn := "GraphRunner$Slot") (j := j) (pc := 5) d_Gr_isConstantOrFolded_5 (fun _ => rfl) hf_2 (rfl) (hj) (by decide) (gf_3 j hj)) ?_
  refine px (fun _ => pm_getf fl_Gr_64 (pc := 6) d_Gr_isConstantOrFolded_6 (H.2.2.2.2.2.2.1 j hj).1 rfl) ?_
  refine px (fun _ => pm_iconst (v := 2) (pc := 9) d_Gr_isConstantOrFolded_9 rfl) ?_
  refine pxb (fun _ => pm_icmp_eq (pc := 10) (tgt := 46) d_Gr_isConstantOrFolded_10 (by decide)) (fun c_4 => ?_) (fun c_4 => ?_)
  · have n_c_4 : (gK S j 0) = 2 := (nI_eq (a := (gK S j 0)) (b := 2) (by omega) (by omega)).mp c_4
    refine px (fun _ => pm_iconst (v := 1) (pc := 46) d_Gr_isConstantOrFolded_46 rfl) ?_
    refine px (fun _ => pm_goto (tgt := 51) (pc := 47) d_Gr_isConstantOrFolded_47 (by decide)) ?_
    exact pxr (pm_iret (pc := 51) d_Gr_isConstantOrFolded_51 rfl rfl) (by rw [if_pos (by omega)])
  · have n_c_4 : ¬ ((gK S j 0) = 2) := fun q => c_4 ((nI_eq (a := (gK S j 0)) (b := 2) (by omega) (by omega)).mpr q)
    refine px (fun _ => pm_aload_n (pc := 13) d_Gr_isConstantOrFolded_13 rfl) ?_
    refine px (fun _ => pm_getf fl_Gr_11 (pc := 14) d_Gr_isConstantOrFolded_14 H.1 rfl) ?_
    refine px (fun _ => pm_iload_n (pc := 17) d_Gr_isConstantOrFolded_17 rfl) ?_
    obtain ⟨f_5, hf_6, gf_7⟩ := id H.2.1
    refine px (fun _ => pm_aald (kd := 3) (Cn := "GraphRunner$Slot") (j := j) (pc := 18) d_Gr_isConstantOrFolded_18 (fun _ => rfl) hf_6 (rfl) (hj) (by decide) (gf_7 j hj)) ?_
    refine px (fun _ => pm_getf fl_Gr_64 (pc := 19) d_Gr_isConstantOrFolded_19 (H.2.2.2.2.2.2.1 j hj).1 rfl) ?_
    refine px (fun _ => pm_iconst (v := 3) (pc := 22) d_Gr_isConstantOrFolded_22 rfl) ?_
    refine pxn (fun _ => pm_icmp_ne (pc := 23) (tgt := 50) d_Gr_isConstantOrFolded_23 (by decide)) (fun c_8 => ?_) (fun c_8 => ?_)
    · have n_c_8 : ¬ ((gK S j 0) = 3) := fun q => c_8 ((nI_eq (a := (gK S j 0)) (b := 3) (by omega) (by omega)).mpr q)
      refine px (fun _ => pm_iconst (v := 0) (pc := 50) d_Gr_isConstantOrFolded_50 rfl) ?_
      exact pxr (pm_iret (pc := 51) d_Gr_isConstantOrFolded_51 rfl rfl) (by rw [if_neg (by omega)])
    · have n_c_8 : (gK S j 0) = 3 := (nI_eq (a := (gK S j 0)) (b := 3) (by omega) (by omega)).mp c_8
      refine px (fun _ => pm_aload_n (pc := 26) d_Gr_isConstantOrFolded_26 rfl) ?_
      refine px (fun _ => pm_getf fl_Gr_17 (pc := 27) d_Gr_isConstantOrFolded_27 H.1 rfl) ?_
      refine px (fun _ => pm_aload_n (pc := 30) d_Gr_isConstantOrFolded_30 rfl) ?_
      refine px (fun _ => pm_getf fl_Gr_11 (pc := 31) d_Gr_isConstantOrFolded_31 H.1 rfl) ?_
      refine px (fun _ => pm_iload_n (pc := 34) d_Gr_isConstantOrFolded_34 rfl) ?_
      obtain ⟨f_9, hf_10, gf_11⟩ := id H.2.1
      refine px (fun _ => pm_aald (kd := 3) (Cn := "GraphRunner$Slot") (j := j) (pc := 35) d_Gr_isConstantOrFolded_35 (fun _ => rfl) hf_10 (rfl) (hj) (by decide) (gf_11 j hj)) ?_
      refine px (fun _ => pm_getf fl_Gr_125 (pc := 36) d_Gr_isConstantOrFolded_36 (H.2.2.2.2.2.2.1 j hj).1 rfl) ?_
      obtain ⟨f_12, hf_13, gf_14⟩ := id H.2.2.1
      refine px (fun _ => pm_aald (kd := 4) (Cn := "GraphRunner$Node") (j := gK S j 1) (pc := 39) d_Gr_isConstantOrFolded_39 (fun _ => rfl) hf_13 (rfl) (bj.2.1) (by decide) (gf_14 (gK S j 1) bj.2.1)) ?_
      refine px (fun _ => pm_getf fl_Gr_187 (pc := 40) d_Gr_isConstantOrFolded_40 (H.2.2.2.2.2.2.2 (gK S j 1) bj.2.1).1 rfl) ?_
      refine pxb (fun _ => pm_if_eq (pc := 43) (tgt := 50) d_Gr_isConstantOrFolded_43 (by decide)) (fun c_15 => ?_) (fun c_15 => ?_)
      · have n_c_15 : (gN S (gK S j 1) 4) = 0 := (nI_eq (a := (gN S (gK S j 1) 4)) (b := 0) (by omega) (by omega)).mp c_15
        refine px (fun _ => pm_iconst (v := 0) (pc := 50) d_Gr_isConstantOrFolded_50 rfl) ?_
        exact pxr (pm_iret (pc := 51) d_Gr_isConstantOrFolded_51 rfl rfl) (by rw [if_neg (by omega)])
      · have n_c_15 : ¬ ((gN S (gK S j 1) 4) = 0) := fun q => c_15 ((nI_eq (a := (gN S (gK S j 1) 4)) (b := 0) (by omega) (by omega)).mpr q)
        refine px (fun _ => pm_iconst (v := 1) (pc := 46) d_Gr_isConstantOrFolded_46 rfl) ?_
        refine px (fun _ => pm_goto (tgt := 51) (pc := 47) d_Gr_isConstantOrFolded_47 (by decide)) ?_
        exact pxr (pm_iret (pc := 51) d_Gr_isConstantOrFolded_51 rfl rfl) (by rw [if_pos (by omega)])
set_option maxHeartbeats 4000000 in
set_option maxRecDepth 20000 in
theorem c_hasOut {l : Launch} {G : pm_G} {fi : Bool} {h : pm_H} {S : gS} {n : Nat} (hl : l.stackTraces = false) (H : gH S h) (hW : gW S) (hn : n < 14) : pm_En l G fi fi 0 0 M_Nd_hasOutcome [.ref (67 + 2 * n)] h (.inl (some (.int (if gN S n 5 = 1 ∨ gN S n 4 = 1 then 1 else 0))), h) := by
  refine pm_Cn.eq (pm_Cn.of hl (by decide) (Nat.le_of_ble_eq_true rfl) ?_)
  obtain ⟨b1, b2, b3, b4, b5, b6⟩ := id hW
  have bn := b6 n hn
  refine px (fun _ => pm_aload_n (pc := 0) d_Nd_hasOutcome_0 rfl) ?_
  refine px (fun _ => pm_getf fl_Nd_38 (pc := 1) d_Nd_hasOutcome_1 (H.2.2.2.2.2.2.2 n hn).1 rfl) ?_
  refine pxn (fun _ => pm_if_ne (pc := 4) (tgt := 14) d_Nd_hasOutcome_4 (by decide)) (fun c_1 => ?_) (fun c_1 => ?_)
  · have n_c_1 : ¬ ((gN S n 5) = 0) := fun q => c_1 ((nI_eq (a := (gN S n 5)) (b := 0) (by omega) (by omega)).mpr q)
    refine px (fun _ => pm_iconst (v := 1) (pc := 14) d_Nd_hasOutcome_14 rfl) ?_
    refine px (fun _ => pm_goto (tgt := 19) (pc := 15) d_Nd_hasOutcome_15 (by decide)) ?_
    exact pxr (pm_iret (pc := 19) d_Nd_hasOutcome_19 rfl rfl) (by rw [if_pos (by omega)])
  · have n_c_1 : (gN S n 5) = 0 := (nI_eq (a := (gN S n 5)) (b := 0) (by omega) (by omega)).mp c_1
    refine px (fun _ => pm_aload_n (pc := 7) d_Nd_hasOutcome_7 rfl) ?_
    refine px (fun _ => pm_getf fl_Nd_35 (pc := 8) d_Nd_hasOutcome_8 (H.2.2.2.2.2.2.2 n hn).1 rfl) ?_
    refine pxb (fun _ => pm_if_eq (pc := 11) (tgt := 18) d_Nd_hasOutcome_11 (by decide)) (fun c_2 => ?_) (fun c_2 => ?_)
    · have n_c_2 : (gN S n 4) = 0 := (nI_eq (a := (gN S n 4)) (b := 0) (by omega) (by omega)).mp c_2
      refine px (fun _ => pm_iconst (v := 0) (pc := 18) d_Nd_hasOutcome_18 rfl) ?_
      exact pxr (pm_iret (pc := 19) d_Nd_hasOutcome_19 rfl rfl) (by rw [if_neg (by omega)])
    · have n_c_2 : ¬ ((gN S n 4) = 0) := fun q => c_2 ((nI_eq (a := (gN S n 4)) (b := 0) (by omega) (by omega)).mpr q)
      refine px (fun _ => pm_iconst (v := 1) (pc := 14) d_Nd_hasOutcome_14 rfl) ?_
      refine px (fun _ => pm_goto (tgt := 19) (pc := 15) d_Nd_hasOutcome_15 (by decide)) ?_
      exact pxr (pm_iret (pc := 19) d_Nd_hasOutcome_19 rfl rfl) (by rw [if_pos (by omega)])
set_option maxHeartbeats 4000000 in
set_option maxRecDepth 20000 in
theorem c_isThere {l : Launch} {G : pm_G} {fi : Bool} {h : pm_H} {S : gS} {j : Nat} (hl : l.stackTraces = false) (H : gH S h) (hW : gW S) (hj : j < 20) : pm_En l G fi fi 0 0 M_Gr_isThere [.ref (0), .int (nI j)] h (.inl (some (.int (if (gK S j 0 = 1 ∨ gK S j 0 = 2) ∨ gK S j 0 = 3 ∧ (gN S (gK S j 1) 5 = 1 ∨ gN S (gK S j 1) 4 = 1) then 1 else 0))), h) := by
  refine pm_Cn.eq (pm_Cn.of hl (by decide) (Nat.le_of_ble_eq_true rfl) ?_)
  obtain ⟨b1, b2, b3, b4, b5, b6⟩ := id hW
  have bj := b5 j hj
  have bn := b6 (gK S j 1) bj.2.1
  refine px (fun _ => pm_aload_n (pc := 0) d_Gr_isThere_0 rfl) ?_
  refine px (fun _ => pm_iload_n (pc := 1) d_Gr_isThere_1 rfl) ?_
  refine px (fun _ => k_Gr_isThere_2 (kc1 := 0) (ks1 := 0) (kc := 0) (ks := 0) (av := [.int (nI j)]) (st := []) H.1 (c_isFed hl H hW hj) rfl rfl (Nat.le_of_ble_eq_true rfl)) ?_
  refine pxn (fun _ => pm_if_ne (pc := 5) (tgt := 41) d_Gr_isThere_5 (by decide)) (fun c_1 => ?_) (fun c_1 => ?_)
  · have n_c_1 : gK S j 0 = 1 ∨ gK S j 0 = 2 := Decidable.byContradiction fun q => c_1 (g_if0.mpr q)
    refine px (fun _ => pm_iconst (v := 1) (pc := 41) d_Gr_isThere_41 rfl) ?_
    refine px (fun _ => pm_goto (tgt := 46) (pc := 42) d_Gr_isThere_42 (by decide)) ?_
    exact pxr (pm_iret (pc := 46) d_Gr_isThere_46 rfl rfl) (by rw [if_pos (by omega)])
  · have n_c_1 : ¬ (gK S j 0 = 1 ∨ gK S j 0 = 2) := g_if0.mp c_1
    refine px (fun _ => pm_aload_n (pc := 8) d_Gr_isThere_8 rfl) ?_
    refine px (fun _ => pm_getf fl_Gr_11 (pc := 9) d_Gr_isThere_9 H.1 rfl) ?_
    refine px (fun _ => pm_iload_n (pc := 12) d_Gr_isThere_12 rfl) ?_
    obtain ⟨f_2, hf_3, gf_4⟩ := id H.2.1
    refine px (fun _ => pm_aald (kd := 3) (Cn := "GraphRunner$Slot") (j := j) (pc := 13) d_Gr_isThere_13 (fun _ => rfl) hf_3 (rfl) (hj) (by decide) (gf_4 j hj)) ?_
    refine px (fun _ => pm_getf fl_Gr_64 (pc := 14) d_Gr_isThere_14 (H.2.2.2.2.2.2.1 j hj).1 rfl) ?_
    refine px (fun _ => pm_iconst (v := 3) (pc := 17) d_Gr_isThere_17 rfl) ?_
    refine pxn (fun _ => pm_icmp_ne (pc := 18) (tgt := 45) d_Gr_isThere_18 (by decide)) (fun c_5 => ?_) (fun c_5 => ?_)
    · have n_c_5 : ¬ ((gK S j 0) = 3) := fun q => c_5 ((nI_eq (a := (gK S j 0)) (b := 3) (by omega) (by omega)).mpr q)
      refine px (fun _ => pm_iconst (v := 0) (pc := 45) d_Gr_isThere_45 rfl) ?_
      exact pxr (pm_iret (pc := 46) d_Gr_isThere_46 rfl rfl) (by rw [if_neg (by omega)])
    · have n_c_5 : (gK S j 0) = 3 := (nI_eq (a := (gK S j 0)) (b := 3) (by omega) (by omega)).mp c_5
      refine px (fun _ => pm_aload_n (pc := 21) d_Gr_isThere_21 rfl) ?_
      refine px (fun _ => pm_getf fl_Gr_17 (pc := 22) d_Gr_isThere_22 H.1 rfl) ?_
      refine px (fun _ => pm_aload_n (pc := 25) d_Gr_isThere_25 rfl) ?_
      refine px (fun _ => pm_getf fl_Gr_11 (pc := 26) d_Gr_isThere_26 H.1 rfl) ?_
      refine px (fun _ => pm_iload_n (pc := 29) d_Gr_isThere_29 rfl) ?_
      obtain ⟨f_6, hf_7, gf_8⟩ := id H.2.1
      refine px (fun _ => pm_aald (kd := 3) (Cn := "GraphRunner$Slot") (j := j) (pc := 30) d_Gr_isThere_30 (fun _ => rfl) hf_7 (rfl) (hj) (by decide) (gf_8 j hj)) ?_
      refine px (fun _ => pm_getf fl_Gr_125 (pc := 31) d_Gr_isThere_31 (H.2.2.2.2.2.2.1 j hj).1 rfl) ?_
      obtain ⟨f_9, hf_10, gf_11⟩ := id H.2.2.1
      refine px (fun _ => pm_aald (kd := 4) (Cn := "GraphRunner$Node") (j := gK S j 1) (pc := 34) d_Gr_isThere_34 (fun _ => rfl) hf_10 (rfl) (bj.2.1) (by decide) (gf_11 (gK S j 1) bj.2.1)) ?_
      refine px (fun _ => k_Gr_isThere_35 (kc1 := 0) (ks1 := 0) (kc := 0) (ks := 0) (av := []) (st := []) (H.2.2.2.2.2.2.2 (gK S j 1) bj.2.1).1 (c_hasOut hl H hW bj.2.1) rfl rfl (Nat.le_of_ble_eq_true rfl)) ?_
      refine pxb (fun _ => pm_if_eq (pc := 38) (tgt := 45) d_Gr_isThere_38 (by decide)) (fun c_12 => ?_) (fun c_12 => ?_)
      · have n_c_12 : ¬ (gN S (gK S j 1) 5 = 1 ∨ gN S (gK S j 1) 4 = 1) := g_if0.mp c_12
        refine px (fun _ => pm_iconst (v := 0) (pc := 45) d_Gr_isThere_45 rfl) ?_
        exact pxr (pm_iret (pc := 46) d_Gr_isThere_46 rfl rfl) (by rw [if_neg (by omega)])
      · have n_c_12 : gN S (gK S j 1) 5 = 1 ∨ gN S (gK S j 1) 4 = 1 := Decidable.byContradiction fun q => c_12 (g_if0.mpr q)
        refine px (fun _ => pm_iconst (v := 1) (pc := 41) d_Gr_isThere_41 rfl) ?_
        refine px (fun _ => pm_goto (tgt := 46) (pc := 42) d_Gr_isThere_42 (by decide)) ?_
        exact pxr (pm_iret (pc := 46) d_Gr_isThere_46 rfl rfl) (by rw [if_pos (by omega)])
