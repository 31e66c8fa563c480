/-! ===== the class: Shapes.find, an operator each ===== -/
set_option maxHeartbeats 4000000 in
set_option maxRecDepth 20000 in
theorem f_0 {l : Launch} {G : pm_G} {fi : Bool} {h : pm_H} {S : gS} {a b o9 n xc : Nat} (hl : l.stackTraces = false) (H : gH S h) (hW : gW S) (hn : n < 14) (ha : a < 20) (hb : b < 20) (ho : o9 < 20) (hop : gN S n 1 = 0) : pm_Cn l G fi fi 0 0 M_Sh_find [.ref (67 + 2 * n), .ref (8 + 3 * a), .ref (8 + 3 * b), .ref (xc), .ref (8 + 3 * o9)] h (g_PS S o9 h (if gT S a 0 = gT S b 0 then if (gT S a 1 = gT S b 1 ∨ gT S a 1 = 1 ∨ gT S b 1 = 1) ∧ (gT S a 2 = gT S b 2 ∨ gT S a 2 = 1 ∨ gT S b 2 = 1) then g_sh (gT S a 0) (max (gT S a 1) (gT S b 1)) (max (gT S a 2) (gT S b 2)) else none else none)) := by
  refine pm_Cn.of hl (by decide) (Nat.le_of_ble_eq_true rfl) ?_
  have ba := hW.2.2.2.2.1 a ha
  have bb := hW.2.2.2.2.1 b hb
  refine px (fun _ => pm_aload_n (pc := 0) d_Sh_find_0 rfl) ?_
  refine px (fun _ => pm_getf fl_Sh_9 (pc := 1) d_Sh_find_1 (H.2.2.2.2.2.2.2 n hn).1 rfl) ?_
  have tx_4 : (nI (gN S n 1) : Int32).toInt = 0 := by rw [hop]; rfl
  refine px (fun _ => pm_tabIn (off := 92) (tgt := 96) (pc := 4) d_Sh_find_4 (by rw [tx_4]; decide) (by rw [tx_4]; decide) (by rw [tx_4]; rfl) (by decide)) ?_
  refine px (fun _ => pm_aload_n (pc := 96) d_Sh_find_96 rfl) ?_
  refine px (fun _ => pm_getf fl_Sh_15 (pc := 97) d_Sh_find_97 (H.2.2.2.2.2.2.1 a ha).2.1 rfl) ?_
  refine px (fun _ => pm_aload_n (pc := 100) d_Sh_find_100 rfl) ?_
  refine px (fun _ => pm_getf fl_Sh_15 (pc := 101) d_Sh_find_101 (H.2.2.2.2.2.2.1 b hb).2.1 rfl) ?_
  refine pxn (fun _ => pm_icmp_ne (pc := 104) (tgt := 125) d_Sh_find_104 (by decide)) (fun c_1 => ?_) (fun c_1 => ?_)
  · have n_c_1 : ¬ ((gT S a 0) = (gT S b 0)) := fun q => c_1 ((nI_eq (a := (gT S a 0)) (b := (gT S b 0)) (by omega) (by omega)).mpr q)
    refine px (fun _ => pm_iconst (v := 0) (pc := 125) d_Sh_find_125 rfl) ?_
    have fx : ¬ (gT S a 0 = gT S b 0) := by omega
    exact pxr (pm_iret (pc := 126) d_Sh_find_126 rfl rfl) ⟨by rw [if_neg fx] <;> rfl, by rw [if_neg fx]; exact H, gFr.rf h⟩
  · have n_c_1 : (gT S a 0) = (gT S b 0) := (nI_eq (a := (gT S a 0)) (b := (gT S b 0)) (by omega) (by omega)).mp c_1
    refine px (fun _ => pm_aload_n (pc := 107) d_Sh_find_107 rfl) ?_
    refine px (fun _ => pm_aload_n (pc := 108) d_Sh_find_108 rfl) ?_
    refine px (fun _ => pm_aload_n (pc := 109) d_Sh_find_109 rfl) ?_
    refine px (fun _ => pm_getf fl_Sh_15 (pc := 110) d_Sh_find_110 (H.2.2.2.2.2.2.1 a ha).2.1 rfl) ?_
    refine px (fun _ => pm_aload (pc := 113) d_Sh_find_113 rfl) ?_
    obtain ⟨⟨o2, h2⟩, ⟨e2, H2, F2⟩, en2⟩ := c_fit (l := l) (G := G) (fi := fi) (t := gT S a 0) hl H hW ha hb ho
    dsimp only at e2 H2 F2
    subst e2
    refine px (fun _ => k_Sh_find_115 (kc1 := 0) (ks1 := 0) (kc := 0) (ks := 0) (av := [.ref (8 + 3 * a), .ref (8 + 3 * b), .int (nI (gT S a 0)), .ref (8 + 3 * o9)]) (st := []) (en2) rfl rfl (Nat.le_of_ble_eq_true rfl)) ?_
    refine pxb (fun _ => pm_if_eq (pc := 118) (tgt := 125) d_Sh_find_118 (by decide)) (fun c_3 => ?_) (fun c_3 => ?_)
    · have n_c_3 : ¬ ((if (gT S a 1 = gT S b 1 ∨ gT S a 1 = 1 ∨ gT S b 1 = 1) ∧ (gT S a 2 = gT S b 2 ∨ gT S a 2 = 1 ∨ gT S b 2 = 1) then g_sh (gT S a 0) (max (gT S a 1) (gT S b 1)) (max (gT S a 2) (gT S b 2)) else none).isSome = true) := g_if0.mp c_3
      refine px (fun _ => pm_iconst (v := 0) (pc := 125) d_Sh_find_125 rfl) ?_
      have fx : gT S a 0 = gT S b 0 := by omega
      exact pxr (pm_iret (pc := 126) d_Sh_find_126 rfl rfl) ⟨by rw [if_pos fx]; rw [if_neg n_c_3], by rw [if_pos fx]; exact H2, F2⟩
    · have n_c_3 : (if (gT S a 1 = gT S b 1 ∨ gT S a 1 = 1 ∨ gT S b 1 = 1) ∧ (gT S a 2 = gT S b 2 ∨ gT S a 2 = 1 ∨ gT S b 2 = 1) then g_sh (gT S a 0) (max (gT S a 1) (gT S b 1)) (max (gT S a 2) (gT S b 2)) else none).isSome = true := Decidable.byContradiction fun q => c_3 (g_if0.mpr q)
      refine px (fun _ => pm_iconst (v := 1) (pc := 121) d_Sh_find_121 rfl) ?_
      refine px (fun _ => pm_goto (tgt := 126) (pc := 122) d_Sh_find_122 (by decide)) ?_
      have fx : gT S a 0 = gT S b 0 := by omega
      exact pxr (pm_iret (pc := 126) d_Sh_find_126 rfl rfl) ⟨by rw [if_pos fx]; rw [if_pos n_c_3], by rw [if_pos fx]; exact H2, F2⟩
set_option maxHeartbeats 4000000 in
set_option maxRecDepth 20000 in
theorem f_1 {l : Launch} {G : pm_G} {fi : Bool} {h : pm_H} {S : gS} {a b o9 n xc : Nat} (hl : l.stackTraces = false) (H : gH S h) (hW : gW S) (hn : n < 14) (ha : a < 20) (hb : b < 20) (ho : o9 < 20) (hop : gN S n 1 = 1) : pm_Cn l G fi fi 0 0 M_Sh_find [.ref (67 + 2 * n), .ref (8 + 3 * a), .ref (8 + 3 * b), .ref (xc), .ref (8 + 3 * o9)] h (g_PS S o9 h (if gT S a 0 = gT S b 0 then if (gT S a 1 = gT S b 1 ∨ gT S a 1 = 1 ∨ gT S b 1 = 1) ∧ (gT S a 2 = gT S b 2 ∨ gT S a 2 = 1 ∨ gT S b 2 = 1) then g_sh (gT S a 0) (max (gT S a 1) (gT S b 1)) (max (gT S a 2) (gT S b 2)) else none else none)) := by
  refine pm_Cn.of hl (by decide) (Nat.le_of_ble_eq_true rfl) ?_
  have ba := hW.2.2.2.2.1 a ha
  have bb := hW.2.2.2.2.1 b hb
  refine px (fun _ => pm_aload_n (pc := 0) d_Sh_find_0 rfl) ?_
  refine px (fun _ => pm_getf fl_Sh_9 (pc := 1) d_Sh_find_1 (H.2.2.2.2.2.2.2 n hn).1 rfl) ?_
  have tx_4 : (nI (gN S n 1) : Int32).toInt = 1 := by rw [hop]; rfl
  refine px (fun _ => pm_tabIn (off := 92) (tgt := 96) (pc := 4) d_Sh_find_4 (by rw [tx_4]; decide) (by rw [tx_4]; decide) (by rw [tx_4]; rfl) (by decide)) ?_
  refine px (fun _ => pm_aload_n (pc := 96) d_Sh_find_96 rfl) ?_
  refine px (fun _ => pm_getf fl_Sh_15 (pc := 97) d_Sh_find_97 (H.2.2.2.2.2.2.1 a ha).2.1 rfl) ?_
  refine px (fun _ => pm_aload_n (pc := 100) d_Sh_find_100 rfl) ?_
  refine px (fun _ => pm_getf fl_Sh_15 (pc := 101) d_Sh_find_101 (H.2.2.2.2.2.2.1 b hb).2.1 rfl) ?_
  refine pxn (fun _ => pm_icmp_ne (pc := 104) (tgt := 125) d_Sh_find_104 (by decide)) (fun c_1 => ?_) (fun c_1 => ?_)
  · have n_c_1 : ¬ ((gT S a 0) = (gT S b 0)) := fun q => c_1 ((nI_eq (a := (gT S a 0)) (b := (gT S b 0)) (by omega) (by omega)).mpr q)
    refine px (fun _ => pm_iconst (v := 0) (pc := 125) d_Sh_find_125 rfl) ?_
    have fx : ¬ (gT S a 0 = gT S b 0) := by omega
    exact pxr (pm_iret (pc := 126) d_Sh_find_126 rfl rfl) ⟨by rw [if_neg fx] <;> rfl, by rw [if_neg fx]; exact H, gFr.rf h⟩
  · have n_c_1 : (gT S a 0) = (gT S b 0) := (nI_eq (a := (gT S a 0)) (b := (gT S b 0)) (by omega) (by omega)).mp c_1
    refine px (fun _ => pm_aload_n (pc := 107) d_Sh_find_107 rfl) ?_
    refine px (fun _ => pm_aload_n (pc := 108) d_Sh_find_108 rfl) ?_
    refine px (fun _ => pm_aload_n (pc := 109) d_Sh_find_109 rfl) ?_
    refine px (fun _ => pm_getf fl_Sh_15 (pc := 110) d_Sh_find_110 (H.2.2.2.2.2.2.1 a ha).2.1 rfl) ?_
    refine px (fun _ => pm_aload (pc := 113) d_Sh_find_113 rfl) ?_
    obtain ⟨⟨o2, h2⟩, ⟨e2, H2, F2⟩, en2⟩ := c_fit (l := l) (G := G) (fi := fi) (t := gT S a 0) hl H hW ha hb ho
    dsimp only at e2 H2 F2
    subst e2
    refine px (fun _ => k_Sh_find_115 (kc1 := 0) (ks1 := 0) (kc := 0) (ks := 0) (av := [.ref (8 + 3 * a), .ref (8 + 3 * b), .int (nI (gT S a 0)), .ref (8 + 3 * o9)]) (st := []) (en2) rfl rfl (Nat.le_of_ble_eq_true rfl)) ?_
    refine pxb (fun _ => pm_if_eq (pc := 118) (tgt := 125) d_Sh_find_118 (by decide)) (fun c_3 => ?_) (fun c_3 => ?_)
    · have n_c_3 : ¬ ((if (gT S a 1 = gT S b 1 ∨ gT S a 1 = 1 ∨ gT S b 1 = 1) ∧ (gT S a 2 = gT S b 2 ∨ gT S a 2 = 1 ∨ gT S b 2 = 1) then g_sh (gT S a 0) (max (gT S a 1) (gT S b 1)) (max (gT S a 2) (gT S b 2)) else none).isSome = true) := g_if0.mp c_3
      refine px (fun _ => pm_iconst (v := 0) (pc := 125) d_Sh_find_125 rfl) ?_
      have fx : gT S a 0 = gT S b 0 := by omega
      exact pxr (pm_iret (pc := 126) d_Sh_find_126 rfl rfl) ⟨by rw [if_pos fx]; rw [if_neg n_c_3], by rw [if_pos fx]; exact H2, F2⟩
    · have n_c_3 : (if (gT S a 1 = gT S b 1 ∨ gT S a 1 = 1 ∨ gT S b 1 = 1) ∧ (gT S a 2 = gT S b 2 ∨ gT S a 2 = 1 ∨ gT S b 2 = 1) then g_sh (gT S a 0) (max (gT S a 1) (gT S b 1)) (max (gT S a 2) (gT S b 2)) else none).isSome = true := Decidable.byContradiction fun q => c_3 (g_if0.mpr q)
      refine px (fun _ => pm_iconst (v := 1) (pc := 121) d_Sh_find_121 rfl) ?_
      refine px (fun _ => pm_goto (tgt := 126) (pc := 122) d_Sh_find_122 (by decide)) ?_
      have fx : gT S a 0 = gT S b 0 := by omega
      exact pxr (pm_iret (pc := 126) d_Sh_find_126 rfl rfl) ⟨by rw [if_pos fx]; rw [if_pos n_c_3], by rw [if_pos fx]; exact H2, F2⟩
set_option maxHeartbeats 4000000 in
set_option maxRecDepth 20000 in
theorem f_2 {l : Launch} {G : pm_G} {fi : Bool} {h : pm_H} {S : gS} {a b o9 n xc : Nat} (hl : l.stackTraces = false) (H : gH S h) (hW : gW S) (hn : n < 14) (ha : a < 20) (hb : b < 20) (ho : o9 < 20) (hop : gN S n 1 = 2) : pm_Cn l G fi fi 0 0 M_Sh_find [.ref (67 + 2 * n), .ref (8 + 3 * a), .ref (8 + 3 * b), .ref (xc), .ref (8 + 3 * o9)] h (g_PS S o9 h (if gT S a 0 = gT S b 0 then if (gT S a 1 = gT S b 1 ∨ gT S a 1 = 1 ∨ gT S b 1 = 1) ∧ (gT S a 2 = gT S b 2 ∨ gT S a 2 = 1 ∨ gT S b 2 = 1) then g_sh (gT S a 0) (max (gT S a 1) (gT S b 1)) (max (gT S a 2) (gT S b 2)) else none else none)) := by
  refine pm_Cn.of hl (by decide) (Nat.le_of_ble_eq_true rfl) ?_
  have ba := hW.2.2.2.2.1 a ha
  have bb := hW.2.2.2.2.1 b hb
  refine px (fun _ => pm_aload_n (pc := 0) d_Sh_find_0 rfl) ?_
  refine px (fun _ => pm_getf fl_Sh_9 (pc := 1) d_Sh_find_1 (H.2.2.2.2.2.2.2 n hn).1 rfl) ?_
  have tx_4 : (nI (gN S n 1) : Int32).toInt = 2 := by rw [hop]; rfl
  refine px (fun _ => pm_tabIn (off := 92) (tgt := 96) (pc := 4) d_Sh_find_4 (by rw [tx_4]; decide) (by rw [tx_4]; decide) (by rw [tx_4]; rfl) (by decide)) ?_
  refine px (fun _ => pm_aload_n (pc := 96) d_Sh_find_96 rfl) ?_
  refine px (fun _ => pm_getf fl_Sh_15 (pc := 97) d_Sh_find_97 (H.2.2.2.2.2.2.1 a ha).2.1 rfl) ?_
  refine px (fun _ => pm_aload_n (pc := 100) d_Sh_find_100 rfl) ?_
  refine px (fun _ => pm_getf fl_Sh_15 (pc := 101) d_Sh_find_101 (H.2.2.2.2.2.2.1 b hb).2.1 rfl) ?_
  refine pxn (fun _ => pm_icmp_ne (pc := 104) (tgt := 125) d_Sh_find_104 (by decide)) (fun c_1 => ?_) (fun c_1 => ?_)
  · have n_c_1 : ¬ ((gT S a 0) = (gT S b 0)) := fun q => c_1 ((nI_eq (a := (gT S a 0)) (b := (gT S b 0)) (by omega) (by omega)).mpr q)
    refine px (fun _ => pm_iconst (v := 0) (pc := 125) d_Sh_find_125 rfl) ?_
    have fx : ¬ (gT S a 0 = gT S b 0) := by omega
    exact pxr (pm_iret (pc := 126) d_Sh_find_126 rfl rfl) ⟨by rw [if_neg fx] <;> rfl, by rw [if_neg fx]; exact H, gFr.rf h⟩
  · have n_c_1 : (gT S a 0) = (gT S b 0) := (nI_eq (a := (gT S a 0)) (b := (gT S b 0)) (by omega) (by omega)).mp c_1
    refine px (fun _ => pm_aload_n (pc := 107) d_Sh_find_107 rfl) ?_
    refine px (fun _ => pm_aload_n (pc := 108) d_Sh_find_108 rfl) ?_
    refine px (fun _ => pm_aload_n (pc := 109) d_Sh_find_109 rfl) ?_
    refine px (fun _ => pm_getf fl_Sh_15 (pc := 110) d_Sh_find_110 (H.2.2.2.2.2.2.1 a ha).2.1 rfl) ?_
    refine px (fun _ => pm_aload (pc := 113) d_Sh_find_113 rfl) ?_
    obtain ⟨⟨o2, h2⟩, ⟨e2, H2, F2⟩, en2⟩ := c_fit (l := l) (G := G) (fi := fi) (t := gT S a 0) hl H hW ha hb ho
    dsimp only at e2 H2 F2
    subst e2
    refine px (fun _ => k_Sh_find_115 (kc1 := 0) (ks1 := 0) (kc := 0) (ks := 0) (av := [.ref (8 + 3 * a), .ref (8 + 3 * b), .int (nI (gT S a 0)), .ref (8 + 3 * o9)]) (st := []) (en2) rfl rfl (Nat.le_of_ble_eq_true rfl)) ?_
    refine pxb (fun _ => pm_if_eq (pc := 118) (tgt := 125) d_Sh_find_118 (by decide)) (fun c_3 => ?_) (fun c_3 => ?_)
    · have n_c_3 : ¬ ((if (gT S a 1 = gT S b 1 ∨ gT S a 1 = 1 ∨ gT S b 1 = 1) ∧ (gT S a 2 = gT S b 2 ∨ gT S a 2 = 1 ∨ gT S b 2 = 1) then g_sh (gT S a 0) (max (gT S a 1) (gT S b 1)) (max (gT S a 2) (gT S b 2)) else none).isSome = true) := g_if0.mp c_3
      refine px (fun _ => pm_iconst (v := 0) (pc := 125) d_Sh_find_125 rfl) ?_
      have fx : gT S a 0 = gT S b 0 := by omega
      exact pxr (pm_iret (pc := 126) d_Sh_find_126 rfl rfl) ⟨by rw [if_pos fx]; rw [if_neg n_c_3], by rw [if_pos fx]; exact H2, F2⟩
    · have n_c_3 : (if (gT S a 1 = gT S b 1 ∨ gT S a 1 = 1 ∨ gT S b 1 = 1) ∧ (gT S a 2 = gT S b 2 ∨ gT S a 2 = 1 ∨ gT S b 2 = 1) then g_sh (gT S a 0) (max (gT S a 1) (gT S b 1)) (max (gT S a 2) (gT S b 2)) else none).isSome = true := Decidable.byContradiction fun q => c_3 (g_if0.mpr q)
      refine px (fun _ => pm_iconst (v := 1) (pc := 121) d_Sh_find_121 rfl) ?_
      refine px (fun _ => pm_goto (tgt := 126) (pc := 122) d_Sh_find_122 (by decide)) ?_
      have fx : gT S a 0 = gT S b 0 := by omega
      exact pxr (pm_iret (pc := 126) d_Sh_find_126 rfl rfl) ⟨by rw [if_pos fx]; rw [if_pos n_c_3], by rw [if_pos fx]; exact H2, F2⟩
set_option maxHeartbeats 4000000 in
set_option maxRecDepth 20000 in
theorem f_3 {l : Launch} {G : pm_G} {fi : Bool} {h : pm_H} {S : gS} {a b o9 n xc : Nat} (hl : l.stackTraces = false) (H : gH S h) (hW : gW S) (hn : n < 14) (ha : a < 20) (hb : b < 20) (ho : o9 < 20) (hop : gN S n 1 = 3) : pm_Cn l G fi fi 0 0 M_Sh_find [.ref (67 + 2 * n), .ref (8 + 3 * a), .ref (8 + 3 * b), .ref (xc), .ref (8 + 3 * o9)] h (g_PS S o9 h (if gT S a 0 = gT S b 0 then if (gT S a 1 = gT S b 1 ∨ gT S a 1 = 1 ∨ gT S b 1 = 1) ∧ (gT S a 2 = gT S b 2 ∨ gT S a 2 = 1 ∨ gT S b 2 = 1) then g_sh (gT S a 0) (max (gT S a 1) (gT S b 1)) (max (gT S a 2) (gT S b 2)) else none else none)) := by
  refine pm_Cn.of hl (by decide) (Nat.le_of_ble_eq_true rfl) ?_
  have ba := hW.2.2.2.2.1 a ha
  have bb := hW.2.2.2.2.1 b hb
  refine px (fun _ => pm_aload_n (pc := 0) d_Sh_find_0 rfl) ?_
  refine px (fun _ => pm_getf fl_Sh_9 (pc := 1) d_Sh_find_1 (H.2.2.2.2.2.2.2 n hn).1 rfl) ?_
  have tx_4 : (nI (gN S n 1) : Int32).toInt = 3 := by rw [hop]; rfl
  refine px (fun _ => pm_tabIn (off := 92) (tgt := 96) (pc := 4) d_Sh_find_4 (by rw [tx_4]; decide) (by rw [tx_4]; decide) (by rw [tx_4]; rfl) (by decide)) ?_
  refine px (fun _ => pm_aload_n (pc := 96) d_Sh_find_96 rfl) ?_
  refine px (fun _ => pm_getf fl_Sh_15 (pc := 97) d_Sh_find_97 (H.2.2.2.2.2.2.1 a ha).2.1 rfl) ?_
  refine px (fun _ => pm_aload_n (pc := 100) d_Sh_find_100 rfl) ?_
  refine px (fun _ => pm_getf fl_Sh_15 (pc := 101) d_Sh_find_101 (H.2.2.2.2.2.2.1 b hb).2.1 rfl) ?_
  refine pxn (fun _ => pm_icmp_ne (pc := 104) (tgt := 125) d_Sh_find_104 (by decide)) (fun c_1 => ?_) (fun c_1 => ?_)
  · have n_c_1 : ¬ ((gT S a 0) = (gT S b 0)) := fun q => c_1 ((nI_eq (a := (gT S a 0)) (b := (gT S b 0)) (by omega) (by omega)).mpr q)
    refine px (fun _ => pm_iconst (v := 0) (pc := 125) d_Sh_find_125 rfl) ?_
    have fx : ¬ (gT S a 0 = gT S b 0) := by omega
    exact pxr (pm_iret (pc := 126) d_Sh_find_126 rfl rfl) ⟨by rw [if_neg fx] <;> rfl, by rw [if_neg fx]; exact H, gFr.rf h⟩
  · have n_c_1 : (gT S a 0) = (gT S b 0) := (nI_eq (a := (gT S a 0)) (b := (gT S b 0)) (by omega) (by omega)).mp c_1
    refine px (fun _ => pm_aload_n (pc := 107) d_Sh_find_107 rfl) ?_
    refine px (fun _ => pm_aload_n (pc := 108) d_Sh_find_108 rfl) ?_
    refine px (fun _ => pm_aload_n (pc := 109) d_Sh_find_109 rfl) ?_
    refine px (fun _ => pm_getf fl_Sh_15 (pc := 110) d_Sh_find_110 (H.2.2.2.2.2.2.1 a ha).2.1 rfl) ?_
    refine px (fun _ => pm_aload (pc := 113) d_Sh_find_113 rfl) ?_
    obtain ⟨⟨o2, h2⟩, ⟨e2, H2, F2⟩, en2⟩ := c_fit (l := l) (G := G) (fi := fi) (t := gT S a 0) hl H hW ha hb ho
    dsimp only at e2 H2 F2
    subst e2
    refine px (fun _ => k_Sh_find_115 (kc1 := 0) (ks1 := 0) (kc := 0) (ks := 0) (av := [.ref (8 + 3 * a), .ref (8 + 3 * b), .int (nI (gT S a 0)), .ref (8 + 3 * o9)]) (st := []) (en2) rfl rfl (Nat.le_of_ble_eq_true rfl)) ?_
    refine pxb (fun _ => pm_if_eq (pc := 118) (tgt := 125) d_Sh_find_118 (by decide)) (fun c_3 => ?_) (fun c_3 => ?_)
    · have n_c_3 : ¬ ((if (gT S a 1 = gT S b 1 ∨ gT S a 1 = 1 ∨ gT S b 1 = 1) ∧ (gT S a 2 = gT S b 2 ∨ gT S a 2 = 1 ∨ gT S b 2 = 1) then g_sh (gT S a 0) (max (gT S a 1) (gT S b 1)) (max (gT S a 2) (gT S b 2)) else none).isSome = true) := g_if0.mp c_3
      refine px (fun _ => pm_iconst (v := 0) (pc := 125) d_Sh_find_125 rfl) ?_
      have fx : gT S a 0 = gT S b 0 := by omega
      exact pxr (pm_iret (pc := 126) d_Sh_find_126 rfl rfl) ⟨by rw [if_pos fx]; rw [if_neg n_c_3], by rw [if_pos fx]; exact H2, F2⟩
    · have n_c_3 : (if (gT S a 1 = gT S b 1 ∨ gT S a 1 = 1 ∨ gT S b 1 = 1) ∧ (gT S a 2 = gT S b 2 ∨ gT S a 2 = 1 ∨ gT S b 2 = 1) then g_sh (gT S a 0) (max (gT S a 1) (gT S b 1)) (max (gT S a 2) (gT S b 2)) else none).isSome = true := Decidable.byContradiction fun q => c_3 (g_if0.mpr q)
      refine px (fun _ => pm_iconst (v := 1) (pc := 121) d_Sh_find_121 rfl) ?_
      refine px (fun _ => pm_goto (tgt := 126) (pc := 122) d_Sh_find_122 (by decide)) ?_
      have fx : gT S a 0 = gT S b 0 := by omega
      exact pxr (pm_iret (pc := 126) d_Sh_find_126 rfl rfl) ⟨by rw [if_pos fx]; rw [if_pos n_c_3], by rw [if_pos fx]; exact H2, F2⟩
set_option maxHeartbeats 4000000 in
set_option maxRecDepth 20000 in
theorem f_4 {l : Launch} {G : pm_G} {fi : Bool} {h : pm_H} {S : gS} {a b o9 n xc : Nat} (hl : l.stackTraces = false) (H : gH S h) (hW : gW S) (hn : n < 14) (ha : a < 20) (hb : b < 20) (ho : o9 < 20) (hop : gN S n 1 = 4) : pm_Cn l G fi fi 0 0 M_Sh_find [.ref (67 + 2 * n), .ref (8 + 3 * a), .ref (8 + 3 * b), .ref (xc), .ref (8 + 3 * o9)] h (g_PS S o9 h (if (gT S a 0 = 0 ∧ gT S b 0 = 0) ∧ gT S a 2 = gT S b 1 then g_sh 0 (gT S a 1) (gT S b 2) else none)) := by
  refine pm_Cn.of hl (by decide) (Nat.le_of_ble_eq_true rfl) ?_
  have ba := hW.2.2.2.2.1 a ha
  have bb := hW.2.2.2.2.1 b hb
  refine px (fun _ => pm_aload_n (pc := 0) d_Sh_find_0 rfl) ?_
  refine px (fun _ => pm_getf fl_Sh_9 (pc := 1) d_Sh_find_1 (H.2.2.2.2.2.2.2 n hn).1 rfl) ?_
  have tx_4 : (nI (gN S n 1) : Int32).toInt = 4 := by rw [hop]; rfl
  refine px (fun _ => pm_tabIn (off := 123) (tgt := 127) (pc := 4) d_Sh_find_4 (by rw [tx_4]; decide) (by rw [tx_4]; decide) (by rw [tx_4]; rfl) (by decide)) ?_
  refine px (fun _ => pm_aload_n (pc := 127) d_Sh_find_127 rfl) ?_
  refine px (fun _ => pm_aload_n (pc := 128) d_Sh_find_128 rfl) ?_
  refine px (fun _ => k_Sh_find_129 (kc1 := 0) (ks1 := 0) (kc := 0) (ks := 0) (av := [.ref (8 + 3 * a), .ref (8 + 3 * b)]) (st := []) (c_floats hl H hW ha hb) rfl rfl (Nat.le_of_ble_eq_true rfl)) ?_
  refine pxb (fun _ => pm_if_eq (pc := 132) (tgt := 167) d_Sh_find_132 (by decide)) (fun c_1 => ?_) (fun c_1 => ?_)
  · have n_c_1 : ¬ (gT S a 0 = 0 ∧ gT S b 0 = 0) := g_if0.mp c_1
    refine px (fun _ => pm_iconst (v := 0) (pc := 167) d_Sh_find_167 rfl) ?_
    have fx : ¬ ((gT S a 0 = 0 ∧ gT S b 0 = 0) ∧ gT S a 2 = gT S b 1) := by omega
    exact pxr (pm_iret (pc := 168) d_Sh_find_168 rfl rfl) ⟨by rw [if_neg fx] <;> rfl, by rw [if_neg fx]; exact H, gFr.rf h⟩
  · have n_c_1 : gT S a 0 = 0 ∧ gT S b 0 = 0 := Decidable.byContradiction fun q => c_1 (g_if0.mpr q)
    refine px (fun _ => pm_aload_n (pc := 135) d_Sh_find_135 rfl) ?_
    refine px (fun _ => pm_getf fl_Sh_30 (pc := 136) d_Sh_find_136 (H.2.2.2.2.2.2.1 a ha).2.1 rfl) ?_
    refine px (fun _ => pm_aload_n (pc := 139) d_Sh_find_139 rfl) ?_
    refine px (fun _ => pm_getf fl_Sh_33 (pc := 140) d_Sh_find_140 (H.2.2.2.2.2.2.1 b hb).2.1 rfl) ?_
    refine pxn (fun _ => pm_icmp_ne (pc := 143) (tgt := 167) d_Sh_find_143 (by decide)) (fun c_2 => ?_) (fun c_2 => ?_)
    · have n_c_2 : ¬ ((gT S a 2) = (gT S b 1)) := fun q => c_2 ((nI_eq (a := (gT S a 2)) (b := (gT S b 1)) (by omega) (by omega)).mpr q)
      refine px (fun _ => pm_iconst (v := 0) (pc := 167) d_Sh_find_167 rfl) ?_
      have fx : ¬ ((gT S a 0 = 0 ∧ gT S b 0 = 0) ∧ gT S a 2 = gT S b 1) := by omega
      exact pxr (pm_iret (pc := 168) d_Sh_find_168 rfl rfl) ⟨by rw [if_neg fx] <;> rfl, by rw [if_neg fx]; exact H, gFr.rf h⟩
    · have n_c_2 : (gT S a 2) = (gT S b 1) := (nI_eq (a := (gT S a 2)) (b := (gT S b 1)) (by omega) (by omega)).mp c_2
      refine px (fun _ => pm_aload (pc := 146) d_Sh_find_146 rfl) ?_
      refine px (fun _ => pm_iconst (v := 0) (pc := 148) d_Sh_find_148 rfl) ?_
      refine px (fun _ => pm_aload_n (pc := 149) d_Sh_find_149 rfl) ?_
      refine px (fun _ => pm_getf fl_Sh_33 (pc := 150) d_Sh_find_150 (H.2.2.2.2.2.2.1 a ha).2.1 rfl) ?_
      refine px (fun _ => pm_aload_n (pc := 153) d_Sh_find_153 rfl) ?_
      refine px (fun _ => pm_getf fl_Sh_30 (pc := 154) d_Sh_find_154 (H.2.2.2.2.2.2.1 b hb).2.1 rfl) ?_
      obtain ⟨⟨o3, h3⟩, ⟨e3, H3, F3⟩, en3⟩ := c_shape2 (l := l) (G := G) (fi := fi) (t := 0) (r := gT S a 1) (c := gT S b 2) hl H hW ho (by omega) (by omega)
      dsimp only at e3 H3 F3
      subst e3
      refine px (fun _ => k_Sh_find_157 (kc1 := 0) (ks1 := 0) (kc := 0) (ks := 0) (av := [.int (0), .int (nI (gT S a 1)), .int (nI (gT S b 2))]) (st := []) (H.2.2.2.2.2.2.1 o9 ho).2.1 (en3) rfl rfl (Nat.le_of_ble_eq_true rfl)) ?_
      refine pxb (fun _ => pm_if_eq (pc := 160) (tgt := 167) d_Sh_find_160 (by decide)) (fun c_4 => ?_) (fun c_4 => ?_)
      · have n_c_4 : ¬ ((g_sh (0) (gT S a 1) (gT S b 2)).isSome = true) := g_if0.mp c_4
        refine px (fun _ => pm_iconst (v := 0) (pc := 167) d_Sh_find_167 rfl) ?_
        have fx : (gT S a 0 = 0 ∧ gT S b 0 = 0) ∧ gT S a 2 = gT S b 1 := by omega
        exact pxr (pm_iret (pc := 168) d_Sh_find_168 rfl rfl) ⟨by rw [if_pos fx]; rw [if_neg n_c_4], by rw [if_pos fx]; exact H3, F3⟩
      · have n_c_4 : (g_sh (0) (gT S a 1) (gT S b 2)).isSome = true := Decidable.byContradiction fun q => c_4 (g_if0.mpr q)
        refine px (fun _ => pm_iconst (v := 1) (pc := 163) d_Sh_find_163 rfl) ?_
        refine px (fun _ => pm_goto (tgt := 168) (pc := 164) d_Sh_find_164 (by decide)) ?_
        have fx : (gT S a 0 = 0 ∧ gT S b 0 = 0) ∧ gT S a 2 = gT S b 1 := by omega
        exact pxr (pm_iret (pc := 168) d_Sh_find_168 rfl rfl) ⟨by rw [if_pos fx]; rw [if_pos n_c_4], by rw [if_pos fx]; exact H3, F3⟩
set_option maxHeartbeats 4000000 in
set_option maxRecDepth 20000 in
theorem f_5 {l : Launch} {G : pm_G} {fi : Bool} {h : pm_H} {S : gS} {a o9 n xb xc : Nat} (hl : l.stackTraces = false) (H : gH S h) (hW : gW S) (hn : n < 14) (ha : a < 20) (ho : o9 < 20) (hop : gN S n 1 = 5) : pm_Cn l G fi fi 0 0 M_Sh_find [.ref (67 + 2 * n), .ref (8 + 3 * a), .ref (xb), .ref (xc), .ref (8 + 3 * o9)] h (g_PS S o9 h (if gT S a 0 = 0 then g_sh 0 (gT S a 1) (gT S a 2) else none)) := by
  refine pm_Cn.of hl (by decide) (Nat.le_of_ble_eq_true rfl) ?_
  have ba := hW.2.2.2.2.1 a ha
  refine px (fun _ => pm_aload_n (pc := 0) d_Sh_find_0 rfl) ?_
  refine px (fun _ => pm_getf fl_Sh_9 (pc := 1) d_Sh_find_1 (H.2.2.2.2.2.2.2 n hn).1 rfl) ?_
  have tx_4 : (nI (gN S n 1) : Int32).toInt = 5 := by rw [hop]; rfl
  refine px (fun _ => pm_tabIn (off := 165) (tgt := 169) (pc := 4) d_Sh_find_4 (by rw [tx_4]; decide) (by rw [tx_4]; decide) (by rw [tx_4]; rfl) (by decide)) ?_
  refine px (fun _ => pm_aload_n (pc := 169) d_Sh_find_169 rfl) ?_
  refine px (fun _ => pm_getf fl_Sh_15 (pc := 170) d_Sh_find_170 (H.2.2.2.2.2.2.1 a ha).2.1 rfl) ?_
  refine pxn (fun _ => pm_if_ne (pc := 173) (tgt := 197) d_Sh_find_173 (by decide)) (fun c_1 => ?_) (fun c_1 => ?_)
  · have n_c_1 : ¬ ((gT S a 0) = 0) := fun q => c_1 ((nI_eq (a := (gT S a 0)) (b := 0) (by omega) (by omega)).mpr q)
    refine px (fun _ => pm_iconst (v := 0) (pc := 197) d_Sh_find_197 rfl) ?_
    have fx : ¬ (gT S a 0 = 0) := by omega
    exact pxr (pm_iret (pc := 198) d_Sh_find_198 rfl rfl) ⟨by rw [if_neg fx] <;> rfl, by rw [if_neg fx]; exact H, gFr.rf h⟩
  · have n_c_1 : (gT S a 0) = 0 := (nI_eq (a := (gT S a 0)) (b := 0) (by omega) (by omega)).mp c_1
    refine px (fun _ => pm_aload (pc := 176) d_Sh_find_176 rfl) ?_
    refine px (fun _ => pm_iconst (v := 0) (pc := 178) d_Sh_find_178 rfl) ?_
    refine px (fun _ => pm_aload_n (pc := 179) d_Sh_find_179 rfl) ?_
    refine px (fun _ => pm_getf fl_Sh_33 (pc := 180) d_Sh_find_180 (H.2.2.2.2.2.2.1 a ha).2.1 rfl) ?_
    refine px (fun _ => pm_aload_n (pc := 183) d_Sh_find_183 rfl) ?_
    refine px (fun _ => pm_getf fl_Sh_30 (pc := 184) d_Sh_find_184 (H.2.2.2.2.2.2.1 a ha).2.1 rfl) ?_
    obtain ⟨⟨o2, h2⟩, ⟨e2, H2, F2⟩, en2⟩ := c_shape2 (l := l) (G := G) (fi := fi) (t := 0) (r := gT S a 1) (c := gT S a 2) hl H hW ho (by omega) (by omega)
    dsimp only at e2 H2 F2
    subst e2
    refine px (fun _ => k_Sh_find_187 (kc1 := 0) (ks1 := 0) (kc := 0) (ks := 0) (av := [.int (0), .int (nI (gT S a 1)), .int (nI (gT S a 2))]) (st := []) (H.2.2.2.2.2.2.1 o9 ho).2.1 (en2) rfl rfl (Nat.le_of_ble_eq_true rfl)) ?_
    refine pxb (fun _ => pm_if_eq (pc := 190) (tgt := 197) d_Sh_find_190 (by decide)) (fun c_3 => ?_) (fun c_3 => ?_)
    · have n_c_3 : ¬ ((g_sh (0) (gT S a 1) (gT S a 2)).isSome = true) := g_if0.mp c_3
      refine px (fun _ => pm_iconst (v := 0) (pc := 197) d_Sh_find_197 rfl) ?_
      have fx : gT S a 0 = 0 := by omega
      exact pxr (pm_iret (pc := 198) d_Sh_find_198 rfl rfl) ⟨by rw [if_pos fx]; rw [if_neg n_c_3], by rw [if_pos fx]; exact H2, F2⟩
    · have n_c_3 : (g_sh (0) (gT S a 1) (gT S a 2)).isSome = true := Decidable.byContradiction fun q => c_3 (g_if0.mpr q)
      refine px (fun _ => pm_iconst (v := 1) (pc := 193) d_Sh_find_193 rfl) ?_
      refine px (fun _ => pm_goto (tgt := 198) (pc := 194) d_Sh_find_194 (by decide)) ?_
      have fx : gT S a 0 = 0 := by omega
      exact pxr (pm_iret (pc := 198) d_Sh_find_198 rfl rfl) ⟨by rw [if_pos fx]; rw [if_pos n_c_3], by rw [if_pos fx]; exact H2, F2⟩
set_option maxHeartbeats 4000000 in
set_option maxRecDepth 20000 in
theorem f_18 {l : Launch} {G : pm_G} {fi : Bool} {h : pm_H} {S : gS} {a o9 n xb xc : Nat} (hl : l.stackTraces = false) (H : gH S h) (hW : gW S) (hn : n < 14) (ha : a < 20) (ho : o9 < 20) (hop : gN S n 1 = 18) : pm_Cn l G fi fi 0 0 M_Sh_find [.ref (67 + 2 * n), .ref (8 + 3 * a), .ref (xb), .ref (xc), .ref (8 + 3 * o9)] h (g_PS S o9 h (if gT S a 0 = 0 then g_sh 0 (gT S a 1) (gT S a 2) else none)) := by
  refine pm_Cn.of hl (by decide) (Nat.le_of_ble_eq_true rfl) ?_
  have ba := hW.2.2.2.2.1 a ha
  refine px (fun _ => pm_aload_n (pc := 0) d_Sh_find_0 rfl) ?_
  refine px (fun _ => pm_getf fl_Sh_9 (pc := 1) d_Sh_find_1 (H.2.2.2.2.2.2.2 n hn).1 rfl) ?_
  have tx_4 : (nI (gN S n 1) : Int32).toInt = 18 := by rw [hop]; rfl
  refine px (fun _ => pm_tabIn (off := 165) (tgt := 169) (pc := 4) d_Sh_find_4 (by rw [tx_4]; decide) (by rw [tx_4]; decide) (by rw [tx_4]; rfl) (by decide)) ?_
  refine px (fun _ => pm_aload_n (pc := 169) d_Sh_find_169 rfl) ?_
  refine px (fun _ => pm_getf fl_Sh_15 (pc := 170) d_Sh_find_170 (H.2.2.2.2.2.2.1 a ha).2.1 rfl) ?_
  refine pxn (fun _ => pm_if_ne (pc := 173) (tgt := 197) d_Sh_find_173 (by decide)) (fun c_1 => ?_) (fun c_1 => ?_)
  · have n_c_1 : ¬ ((gT S a 0) = 0) := fun q => c_1 ((nI_eq (a := (gT S a 0)) (b := 0) (by omega) (by omega)).mpr q)
    refine px (fun _ => pm_iconst (v := 0) (pc := 197) d_Sh_find_197 rfl) ?_
    have fx : ¬ (gT S a 0 = 0) := by omega
    exact pxr (pm_iret (pc := 198) d_Sh_find_198 rfl rfl) ⟨by rw [if_neg fx] <;> rfl, by rw [if_neg fx]; exact H, gFr.rf h⟩
  · have n_c_1 : (gT S a 0) = 0 := (nI_eq (a := (gT S a 0)) (b := 0) (by omega) (by omega)).mp c_1
    refine px (fun _ => pm_aload (pc := 176) d_Sh_find_176 rfl) ?_
    refine px (fun _ => pm_iconst (v := 0) (pc := 178) d_Sh_find_178 rfl) ?_
    refine px (fun _ => pm_aload_n (pc := 179) d_Sh_find_179 rfl) ?_
    refine px (fun _ => pm_getf fl_Sh_33 (pc := 180) d_Sh_find_180 (H.2.2.2.2.2.2.1 a ha).2.1 rfl) ?_
    refine px (fun _ => pm_aload_n (pc := 183) d_Sh_find_183 rfl) ?_
    refine px (fun _ => pm_getf fl_Sh_30 (pc := 184) d_Sh_find_184 (H.2.2.2.2.2.2.1 a ha).2.1 rfl) ?_
    obtain ⟨⟨o2, h2⟩, ⟨e2, H2, F2⟩, en2⟩ := c_shape2 (l := l) (G := G) (fi := fi) (t := 0) (r := gT S a 1) (c := gT S a 2) hl H hW ho (by omega) (by omega)
    dsimp only at e2 H2 F2
    subst e2
    refine px (fun _ => k_Sh_find_187 (kc1 := 0) (ks1 := 0) (kc := 0) (ks := 0) (av := [.int (0), .int (nI (gT S a 1)), .int (nI (gT S a 2))]) (st := []) (H.2.2.2.2.2.2.1 o9 ho).2.1 (en2) rfl rfl (Nat.le_of_ble_eq_true rfl)) ?_
    refine pxb (fun _ => pm_if_eq (pc := 190) (tgt := 197) d_Sh_find_190 (by decide)) (fun c_3 => ?_) (fun c_3 => ?_)
    · have n_c_3 : ¬ ((g_sh (0) (gT S a 1) (gT S a 2)).isSome = true) := g_if0.mp c_3
      refine px (fun _ => pm_iconst (v := 0) (pc := 197) d_Sh_find_197 rfl) ?_
      have fx : gT S a 0 = 0 := by omega
      exact pxr (pm_iret (pc := 198) d_Sh_find_198 rfl rfl) ⟨by rw [if_pos fx]; rw [if_neg n_c_3], by rw [if_pos fx]; exact H2, F2⟩
    · have n_c_3 : (g_sh (0) (gT S a 1) (gT S a 2)).isSome = true := Decidable.byContradiction fun q => c_3 (g_if0.mpr q)
      refine px (fun _ => pm_iconst (v := 1) (pc := 193) d_Sh_find_193 rfl) ?_
      refine px (fun _ => pm_goto (tgt := 198) (pc := 194) d_Sh_find_194 (by decide)) ?_
      have fx : gT S a 0 = 0 := by omega
      exact pxr (pm_iret (pc := 198) d_Sh_find_198 rfl rfl) ⟨by rw [if_pos fx]; rw [if_pos n_c_3], by rw [if_pos fx]; exact H2, F2⟩
set_option maxHeartbeats 4000000 in
set_option maxRecDepth 20000 in
theorem f_6 {l : Launch} {G : pm_G} {fi : Bool} {h : pm_H} {S : gS} {a o9 n xb xc : Nat} (hl : l.stackTraces = false) (H : gH S h) (hW : gW S) (hn : n < 14) (ha : a < 20) (ho : o9 < 20) (hop : gN S n 1 = 6) : pm_Cn l G fi fi 0 0 M_Sh_find [.ref (67 + 2 * n), .ref (8 + 3 * a), .ref (xb), .ref (xc), .ref (8 + 3 * o9)] h (g_PS S o9 h (g_sh (gT S a 0) (gT S a 2) (gT S a 1))) := by
  refine pm_Cn.of hl (by decide) (Nat.le_of_ble_eq_true rfl) ?_
  have ba := hW.2.2.2.2.1 a ha
  refine px (fun _ => pm_aload_n (pc := 0) d_Sh_find_0 rfl) ?_
  refine px (fun _ => pm_getf fl_Sh_9 (pc := 1) d_Sh_find_1 (H.2.2.2.2.2.2.2 n hn).1 rfl) ?_
  have tx_4 : (nI (gN S n 1) : Int32).toInt = 6 := by rw [hop]; rfl
  refine px (fun _ => pm_tabIn (off := 195) (tgt := 199) (pc := 4) d_Sh_find_4 (by rw [tx_4]; decide) (by rw [tx_4]; decide) (by rw [tx_4]; rfl) (by decide)) ?_
  refine px (fun _ => pm_aload (pc := 199) d_Sh_find_199 rfl) ?_
  refine px (fun _ => pm_aload_n (pc := 201) d_Sh_find_201 rfl) ?_
  refine px (fun _ => pm_getf fl_Sh_15 (pc := 202) d_Sh_find_202 (H.2.2.2.2.2.2.1 a ha).2.1 rfl) ?_
  refine px (fun _ => pm_aload_n (pc := 205) d_Sh_find_205 rfl) ?_
  refine px (fun _ => pm_getf fl_Sh_30 (pc := 206) d_Sh_find_206 (H.2.2.2.2.2.2.1 a ha).2.1 rfl) ?_
  refine px (fun _ => pm_aload_n (pc := 209) d_Sh_find_209 rfl) ?_
  refine px (fun _ => pm_getf fl_Sh_33 (pc := 210) d_Sh_find_210 (H.2.2.2.2.2.2.1 a ha).2.1 rfl) ?_
  obtain ⟨⟨o1, h1⟩, ⟨e1, H1, F1⟩, en1⟩ := c_shape2 (l := l) (G := G) (fi := fi) (t := gT S a 0) (r := gT S a 2) (c := gT S a 1) hl H hW ho (by omega) (by omega)
  dsimp only at e1 H1 F1
  subst e1
  refine px (fun _ => k_Sh_find_213 (kc1 := 0) (ks1 := 0) (kc := 0) (ks := 0) (av := [.int (nI (gT S a 0)), .int (nI (gT S a 2)), .int (nI (gT S a 1))]) (st := []) (H.2.2.2.2.2.2.1 o9 ho).2.1 (en1) rfl rfl (Nat.le_of_ble_eq_true rfl)) ?_
  exact pxr (pm_iret (pc := 216) d_Sh_find_216 rfl pm_bn) ⟨by skip <;> rfl, by skip; exact H1, F1⟩
set_option maxHeartbeats 4000000 in
set_option maxRecDepth 20000 in
theorem f_7y {l : Launch} {G : pm_G} {fi : Bool} {h : pm_H} {S : gS} {a o9 n xb xc : Nat} {t : Nat} (hl : l.stackTraces = false) (H : gH S h) (hW : gW S) (hn : n < 14) (ha : a < 20) (ho : o9 < 20) (hop : gN S n 1 = 7) (hp : gQ S n 0 = nI t) (ht : t = 0 ∨ t = 1) : pm_Cn l G fi fi 0 0 M_Sh_find [.ref (67 + 2 * n), .ref (8 + 3 * a), .ref (xb), .ref (xc), .ref (8 + 3 * o9)] h (g_PS S o9 h (g_sh t (gT S a 1) (gT S a 2))) := by
  refine pm_Cn.of hl (by decide) (Nat.le_of_ble_eq_true rfl) ?_
  have ba := hW.2.2.2.2.1 a ha
  have hnd : h[67 + 2 * n]? = some (pm_Ob 0 [.ref (68 + 2 * n), .int (nI (gN S n 0)), .int (nI (gN S n 1)), .int (nI (gN S n 2)), .int (nI t), .int (gQ S n 1), .int (nI (gN S n 3)), .int (nI (gN S n 4)), .int (nI (gN S n 5))]) := by
    first | rw [← hp, ← hq] | rw [← hp]
    exact (H.2.2.2.2.2.2.2 n hn).1
  refine px (fun _ => pm_aload_n (pc := 0) d_Sh_find_0 rfl) ?_
  refine px (fun _ => pm_getf fl_Sh_9 (pc := 1) d_Sh_find_1 hnd rfl) ?_
  have tx_4 : (nI (gN S n 1) : Int32).toInt = 7 := by rw [hop]; rfl
  refine px (fun _ => pm_tabIn (off := 213) (tgt := 217) (pc := 4) d_Sh_find_4 (by rw [tx_4]; decide) (by rw [tx_4]; decide) (by rw [tx_4]; rfl) (by decide)) ?_
  refine px (fun _ => pm_aload_n (pc := 217) d_Sh_find_217 rfl) ?_
  refine px (fun _ => pm_getf fl_Sh_40 (pc := 218) d_Sh_find_218 hnd rfl) ?_
  refine px (fun _ => k_Sh_find_221 (kc1 := 0) (ks1 := 0) (kc := 0) (ks := 0) (av := [.int (nI t)]) (st := []) ((by have k9 := c_Gr_isType (l := l) (G := G) (fi := fi) (h := h) (t := nI t) hl; rw [if_pos (by rcases ht with rfl | rfl; exact Or.inl rfl; exact Or.inr rfl)] at k9; exact k9)) rfl rfl (Nat.le_of_ble_eq_true rfl)) ?_
  refine pxb (fun _ => pm_if_eq (pc := 224) (tgt := 251) d_Sh_find_224 (by decide)) (fun c_1 => absurd c_1 (by decide)) (fun c_1 => ?_)
  refine px (fun _ => pm_aload (pc := 227) d_Sh_find_227 rfl) ?_
  refine px (fun _ => pm_aload_n (pc := 229) d_Sh_find_229 rfl) ?_
  refine px (fun _ => pm_getf fl_Sh_40 (pc := 230) d_Sh_find_230 hnd rfl) ?_
  refine px (fun _ => pm_aload_n (pc := 233) d_Sh_find_233 rfl) ?_
  refine px (fun _ => pm_getf fl_Sh_33 (pc := 234) d_Sh_find_234 (H.2.2.2.2.2.2.1 a ha).2.1 rfl) ?_
  refine px (fun _ => pm_aload_n (pc := 237) d_Sh_find_237 rfl) ?_
  refine px (fun _ => pm_getf fl_Sh_30 (pc := 238) d_Sh_find_238 (H.2.2.2.2.2.2.1 a ha).2.1 rfl) ?_
  obtain ⟨⟨o2, h2⟩, ⟨e2, H2, F2⟩, en2⟩ := c_shape2 (l := l) (G := G) (fi := fi) (t := t) (r := gT S a 1) (c := gT S a 2) hl H hW ho (by omega) (by omega)
  dsimp only at e2 H2 F2
  subst e2
  refine px (fun _ => k_Sh_find_241 (kc1 := 0) (ks1 := 0) (kc := 0) (ks := 0) (av := [.int (nI t), .int (nI (gT S a 1)), .int (nI (gT S a 2))]) (st := []) (H.2.2.2.2.2.2.1 o9 ho).2.1 (en2) rfl rfl (Nat.le_of_ble_eq_true rfl)) ?_
  refine pxb (fun _ => pm_if_eq (pc := 244) (tgt := 251) d_Sh_find_244 (by decide)) (fun c_3 => ?_) (fun c_3 => ?_)
  · have n_c_3 : ¬ ((g_sh (t) (gT S a 1) (gT S a 2)).isSome = true) := g_if0.mp c_3
    refine px (fun _ => pm_iconst (v := 0) (pc := 251) d_Sh_find_251 rfl) ?_
    exact pxr (pm_iret (pc := 252) d_Sh_find_252 rfl rfl) ⟨by skip; rw [if_neg n_c_3], by skip; exact H2, F2⟩
  · have n_c_3 : (g_sh (t) (gT S a 1) (gT S a 2)).isSome = true := Decidable.byContradiction fun q => c_3 (g_if0.mpr q)
    refine px (fun _ => pm_iconst (v := 1) (pc := 247) d_Sh_find_247 rfl) ?_
    refine px (fun _ => pm_goto (tgt := 252) (pc := 248) d_Sh_find_248 (by decide)) ?_
    exact pxr (pm_iret (pc := 252) d_Sh_find_252 rfl rfl) ⟨by skip; rw [if_pos n_c_3], by skip; exact H2, F2⟩
set_option maxHeartbeats 4000000 in
set_option maxRecDepth 20000 in
theorem f_7n {l : Launch} {G : pm_G} {fi : Bool} {h : pm_H} {S : gS} {a o9 n xb xc : Nat} (hl : l.stackTraces = false) (H : gH S h) (hW : gW S) (hn : n < 14) (ha : a < 20) (ho : o9 < 20) (hop : gN S n 1 = 7) (ht : ¬ (gQ S n 0 = 0 ∨ gQ S n 0 = 1)) : pm_Cn l G fi fi 0 0 M_Sh_find [.ref (67 + 2 * n), .ref (8 + 3 * a), .ref (xb), .ref (xc), .ref (8 + 3 * o9)] h (g_PS S o9 h (none)) := by
  refine pm_Cn.of hl (by decide) (Nat.le_of_ble_eq_true rfl) ?_
  have ba := hW.2.2.2.2.1 a ha
  refine px (fun _ => pm_aload_n (pc := 0) d_Sh_find_0 rfl) ?_
  refine px (fun _ => pm_getf fl_Sh_9 (pc := 1) d_Sh_find_1 (H.2.2.2.2.2.2.2 n hn).1 rfl) ?_
  have tx_4 : (nI (gN S n 1) : Int32).toInt = 7 := by rw [hop]; rfl
  refine px (fun _ => pm_tabIn (off := 213) (tgt := 217) (pc := 4) d_Sh_find_4 (by rw [tx_4]; decide) (by rw [tx_4]; decide) (by rw [tx_4]; rfl) (by decide)) ?_
  refine px (fun _ => pm_aload_n (pc := 217) d_Sh_find_217 rfl) ?_
  refine px (fun _ => pm_getf fl_Sh_40 (pc := 218) d_Sh_find_218 (H.2.2.2.2.2.2.2 n hn).1 rfl) ?_
  refine px (fun _ => k_Sh_find_221 (kc1 := 0) (ks1 := 0) (kc := 0) (ks := 0) (av := [.int (gQ S n 0)]) (st := []) ((by have k9 := c_Gr_isType (l := l) (G := G) (fi := fi) (h := h) (t := gQ S n 0) hl; rw [if_neg ht] at k9; exact k9)) rfl rfl (Nat.le_of_ble_eq_true rfl)) ?_
  refine pxb (fun _ => pm_if_eq (pc := 224) (tgt := 251) d_Sh_find_224 (by decide)) (fun c_1 => ?_) (fun c_1 => absurd (by decide) c_1)
  refine px (fun _ => pm_iconst (v := 0) (pc := 251) d_Sh_find_251 rfl) ?_
  exact pxr (pm_iret (pc := 252) d_Sh_find_252 rfl rfl) ⟨rfl, H, gFr.rf h⟩
set_option maxHeartbeats 4000000 in
set_option maxRecDepth 20000 in
theorem f_8 {l : Launch} {G : pm_G} {fi : Bool} {h : pm_H} {S : gS} {a b o9 n xc : Nat} (hl : l.stackTraces = false) (H : gH S h) (hW : gW S) (hn : n < 14) (ha : a < 20) (hb : b < 20) (ho : o9 < 20) (hop : gN S n 1 = 8) : pm_Cn l G fi fi 0 0 M_Sh_find [.ref (67 + 2 * n), .ref (8 + 3 * a), .ref (8 + 3 * b), .ref (xc), .ref (8 + 3 * o9)] h (g_PS S o9 h (if gT S a 0 = gT S b 0 then if (gT S a 1 = gT S b 1 ∨ gT S a 1 = 1 ∨ gT S b 1 = 1) ∧ (gT S a 2 = gT S b 2 ∨ gT S a 2 = 1 ∨ gT S b 2 = 1) then g_sh (1) (max (gT S a 1) (gT S b 1)) (max (gT S a 2) (gT S b 2)) else none else none)) := by
  refine pm_Cn.of hl (by decide) (Nat.le_of_ble_eq_true rfl) ?_
  have ba := hW.2.2.2.2.1 a ha
  have bb := hW.2.2.2.2.1 b hb
  refine px (fun _ => pm_aload_n (pc := 0) d_Sh_find_0 rfl) ?_
  refine px (fun _ => pm_getf fl_Sh_9 (pc := 1) d_Sh_find_1 (H.2.2.2.2.2.2.2 n hn).1 rfl) ?_
  have tx_4 : (nI (gN S n 1) : Int32).toInt = 8 := by rw [hop]; rfl
  refine px (fun _ => pm_tabIn (off := 249) (tgt := 253) (pc := 4) d_Sh_find_4 (by rw [tx_4]; decide) (by rw [tx_4]; decide) (by rw [tx_4]; rfl) (by decide)) ?_
  refine px (fun _ => pm_aload_n (pc := 253) d_Sh_find_253 rfl) ?_
  refine px (fun _ => pm_getf fl_Sh_15 (pc := 254) d_Sh_find_254 (H.2.2.2.2.2.2.1 a ha).2.1 rfl) ?_
  refine px (fun _ => pm_aload_n (pc := 257) d_Sh_find_257 rfl) ?_
  refine px (fun _ => pm_getf fl_Sh_15 (pc := 258) d_Sh_find_258 (H.2.2.2.2.2.2.1 b hb).2.1 rfl) ?_
  refine pxn (fun _ => pm_icmp_ne (pc := 261) (tgt := 279) d_Sh_find_261 (by decide)) (fun c_1 => ?_) (fun c_1 => ?_)
  · have n_c_1 : ¬ ((gT S a 0) = (gT S b 0)) := fun q => c_1 ((nI_eq (a := (gT S a 0)) (b := (gT S b 0)) (by omega) (by omega)).mpr q)
    refine px (fun _ => pm_iconst (v := 0) (pc := 279) d_Sh_find_279 rfl) ?_
    have fx : ¬ (gT S a 0 = gT S b 0) := by omega
    exact pxr (pm_iret (pc := 280) d_Sh_find_280 rfl rfl) ⟨by rw [if_neg fx] <;> rfl, by rw [if_neg fx]; exact H, gFr.rf h⟩
  · have n_c_1 : (gT S a 0) = (gT S b 0) := (nI_eq (a := (gT S a 0)) (b := (gT S b 0)) (by omega) (by omega)).mp c_1
    refine px (fun _ => pm_aload_n (pc := 264) d_Sh_find_264 rfl) ?_
    refine px (fun _ => pm_aload_n (pc := 265) d_Sh_find_265 rfl) ?_
    refine px (fun _ => pm_iconst (v := 1) (pc := 266) d_Sh_find_266 rfl) ?_
    refine px (fun _ => pm_aload (pc := 267) d_Sh_find_267 rfl) ?_
    obtain ⟨⟨o2, h2⟩, ⟨e2, H2, F2⟩, en2⟩ := c_fit (l := l) (G := G) (fi := fi) (t := 1) hl H hW ha hb ho
    dsimp only at e2 H2 F2
    subst e2
    refine px (fun _ => k_Sh_find_269 (kc1 := 0) (ks1 := 0) (kc := 0) (ks := 0) (av := [.ref (8 + 3 * a), .ref (8 + 3 * b), .int (1), .ref (8 + 3 * o9)]) (st := []) (en2) rfl rfl (Nat.le_of_ble_eq_true rfl)) ?_
    refine pxb (fun _ => pm_if_eq (pc := 272) (tgt := 279) d_Sh_find_272 (by decide)) (fun c_3 => ?_) (fun c_3 => ?_)
    · have n_c_3 : ¬ ((if (gT S a 1 = gT S b 1 ∨ gT S a 1 = 1 ∨ gT S b 1 = 1) ∧ (gT S a 2 = gT S b 2 ∨ gT S a 2 = 1 ∨ gT S b 2 = 1) then g_sh (1) (max (gT S a 1) (gT S b 1)) (max (gT S a 2) (gT S b 2)) else none).isSome = true) := g_if0.mp c_3
      refine px (fun _ => pm_iconst (v := 0) (pc := 279) d_Sh_find_279 rfl) ?_
      have fx : gT S a 0 = gT S b 0 := by omega
      exact pxr (pm_iret (pc := 280) d_Sh_find_280 rfl rfl) ⟨by rw [if_pos fx]; rw [if_neg n_c_3], by rw [if_pos fx]; exact H2, F2⟩
    · have n_c_3 : (if (gT S a 1 = gT S b 1 ∨ gT S a 1 = 1 ∨ gT S b 1 = 1) ∧ (gT S a 2 = gT S b 2 ∨ gT S a 2 = 1 ∨ gT S b 2 = 1) then g_sh (1) (max (gT S a 1) (gT S b 1)) (max (gT S a 2) (gT S b 2)) else none).isSome = true := Decidable.byContradiction fun q => c_3 (g_if0.mpr q)
      refine px (fun _ => pm_iconst (v := 1) (pc := 275) d_Sh_find_275 rfl) ?_
      refine px (fun _ => pm_goto (tgt := 280) (pc := 276) d_Sh_find_276 (by decide)) ?_
      have fx : gT S a 0 = gT S b 0 := by omega
      exact pxr (pm_iret (pc := 280) d_Sh_find_280 rfl rfl) ⟨by rw [if_pos fx]; rw [if_pos n_c_3], by rw [if_pos fx]; exact H2, F2⟩
set_option maxHeartbeats 4000000 in
set_option maxRecDepth 20000 in
theorem f_10 {l : Launch} {G : pm_G} {fi : Bool} {h : pm_H} {S : gS} {a o9 n xb xc : Nat} (hl : l.stackTraces = false) (H : gH S h) (hW : gW S) (hn : n < 14) (ha : a < 20) (ho : o9 < 20) (hop : gN S n 1 = 10) : pm_Cn l G fi fi 0 0 M_Sh_find [.ref (67 + 2 * n), .ref (8 + 3 * a), .ref (xb), .ref (xc), .ref (8 + 3 * o9)] h (g_PS S o9 h (if gQ S n 0 = 0 then g_sh (gT S a 0) 1 (gT S a 2) else if gQ S n 0 = 1 then g_sh (gT S a 0) (gT S a 1) 1 else none)) := by
  refine pm_Cn.of hl (by decide) (Nat.le_of_ble_eq_true rfl) ?_
  have ba := hW.2.2.2.2.1 a ha
  refine px (fun _ => pm_aload_n (pc := 0) d_Sh_find_0 rfl) ?_
  refine px (fun _ => pm_getf fl_Sh_9 (pc := 1) d_Sh_find_1 (H.2.2.2.2.2.2.2 n hn).1 rfl) ?_
  have tx_4 : (nI (gN S n 1) : Int32).toInt = 10 := by rw [hop]; rfl
  refine px (fun _ => pm_tabIn (off := 331) (tgt := 335) (pc := 4) d_Sh_find_4 (by rw [tx_4]; decide) (by rw [tx_4]; decide) (by rw [tx_4]; rfl) (by decide)) ?_
  refine px (fun _ => pm_aload_n (pc := 335) d_Sh_find_335 rfl) ?_
  refine px (fun _ => pm_getf fl_Sh_40 (pc := 336) d_Sh_find_336 (H.2.2.2.2.2.2.2 n hn).1 rfl) ?_
  refine px (fun _ => pm_aload_n (pc := 339) d_Sh_find_339 rfl) ?_
  refine px (fun _ => pm_aload (pc := 340) d_Sh_find_340 rfl) ?_
  obtain ⟨⟨o1, h1⟩, ⟨e1, H1, F1⟩, en1⟩ := c_ga (l := l) (G := G) (fi := fi) hl H hW ha ho
  dsimp only at e1 H1 F1
  subst e1
  refine px (fun _ => k_Sh_find_342 (kc1 := 0) (ks1 := 0) (kc := 0) (ks := 0) (av := [.int (gQ S n 0), .ref (8 + 3 * a), .ref (8 + 3 * o9)]) (st := []) (en1) rfl rfl (Nat.le_of_ble_eq_true rfl)) ?_
  exact pxr (pm_iret (pc := 345) d_Sh_find_345 rfl pm_bn) ⟨by skip <;> rfl, by skip; exact H1, F1⟩
set_option maxHeartbeats 4000000 in
set_option maxRecDepth 20000 in
theorem f_11 {l : Launch} {G : pm_G} {fi : Bool} {h : pm_H} {S : gS} {a o9 n xb xc : Nat} (hl : l.stackTraces = false) (H : gH S h) (hW : gW S) (hn : n < 14) (ha : a < 20) (ho : o9 < 20) (hop : gN S n 1 = 11) : pm_Cn l G fi fi 0 0 M_Sh_find [.ref (67 + 2 * n), .ref (8 + 3 * a), .ref (xb), .ref (xc), .ref (8 + 3 * o9)] h (g_PS S o9 h (if gQ S n 0 = 0 then g_sh (gT S a 0) 1 (gT S a 2) else if gQ S n 0 = 1 then g_sh (gT S a 0) (gT S a 1) 1 else none)) := by
  refine pm_Cn.of hl (by decide) (Nat.le_of_ble_eq_true rfl) ?_
  have ba := hW.2.2.2.2.1 a ha
  refine px (fun _ => pm_aload_n (pc := 0) d_Sh_find_0 rfl) ?_
  refine px (fun _ => pm_getf fl_Sh_9 (pc := 1) d_Sh_find_1 (H.2.2.2.2.2.2.2 n hn).1 rfl) ?_
  have tx_4 : (nI (gN S n 1) : Int32).toInt = 11 := by rw [hop]; rfl
  refine px (fun _ => pm_tabIn (off := 331) (tgt := 335) (pc := 4) d_Sh_find_4 (by rw [tx_4]; decide) (by rw [tx_4]; decide) (by rw [tx_4]; rfl) (by decide)) ?_
  refine px (fun _ => pm_aload_n (pc := 335) d_Sh_find_335 rfl) ?_
  refine px (fun _ => pm_getf fl_Sh_40 (pc := 336) d_Sh_find_336 (H.2.2.2.2.2.2.2 n hn).1 rfl) ?_
  refine px (fun _ => pm_aload_n (pc := 339) d_Sh_find_339 rfl) ?_
  refine px (fun _ => pm_aload (pc := 340) d_Sh_find_340 rfl) ?_
  obtain ⟨⟨o1, h1⟩, ⟨e1, H1, F1⟩, en1⟩ := c_ga (l := l) (G := G) (fi := fi) hl H hW ha ho
  dsimp only at e1 H1 F1
  subst e1
  refine px (fun _ => k_Sh_find_342 (kc1 := 0) (ks1 := 0) (kc := 0) (ks := 0) (av := [.int (gQ S n 0), .ref (8 + 3 * a), .ref (8 + 3 * o9)]) (st := []) (en1) rfl rfl (Nat.le_of_ble_eq_true rfl)) ?_
  exact pxr (pm_iret (pc := 345) d_Sh_find_345 rfl pm_bn) ⟨by skip <;> rfl, by skip; exact H1, F1⟩
set_option maxHeartbeats 4000000 in
set_option maxRecDepth 20000 in
theorem f_12 {l : Launch} {G : pm_G} {fi : Bool} {h : pm_H} {S : gS} {a o9 n xb xc : Nat} (hl : l.stackTraces = false) (H : gH S h) (hW : gW S) (hn : n < 14) (ha : a < 20) (ho : o9 < 20) (hop : gN S n 1 = 12) : pm_Cn l G fi fi 0 0 M_Sh_find [.ref (67 + 2 * n), .ref (8 + 3 * a), .ref (xb), .ref (xc), .ref (8 + 3 * o9)] h (g_PS S o9 h (g_sh 1 (gT S a 1) 1)) := by
  refine pm_Cn.of hl (by decide) (Nat.le_of_ble_eq_true rfl) ?_
  have ba := hW.2.2.2.2.1 a ha
  refine px (fun _ => pm_aload_n (pc := 0) d_Sh_find_0 rfl) ?_
  refine px (fun _ => pm_getf fl_Sh_9 (pc := 1) d_Sh_find_1 (H.2.2.2.2.2.2.2 n hn).1 rfl) ?_
  have tx_4 : (nI (gN S n 1) : Int32).toInt = 12 := by rw [hop]; rfl
  refine px (fun _ => pm_tabIn (off := 342) (tgt := 346) (pc := 4) d_Sh_find_4 (by rw [tx_4]; decide) (by rw [tx_4]; decide) (by rw [tx_4]; rfl) (by decide)) ?_
  refine px (fun _ => pm_aload (pc := 346) d_Sh_find_346 rfl) ?_
  refine px (fun _ => pm_iconst (v := 1) (pc := 348) d_Sh_find_348 rfl) ?_
  refine px (fun _ => pm_aload_n (pc := 349) d_Sh_find_349 rfl) ?_
  refine px (fun _ => pm_getf fl_Sh_33 (pc := 350) d_Sh_find_350 (H.2.2.2.2.2.2.1 a ha).2.1 rfl) ?_
  refine px (fun _ => pm_iconst (v := 1) (pc := 353) d_Sh_find_353 rfl) ?_
  obtain ⟨⟨o1, h1⟩, ⟨e1, H1, F1⟩, en1⟩ := c_shape2 (l := l) (G := G) (fi := fi) (t := 1) (r := gT S a 1) (c := 1) hl H hW ho (by omega) (by omega)
  dsimp only at e1 H1 F1
  subst e1
  refine px (fun _ => k_Sh_find_354 (kc1 := 0) (ks1 := 0) (kc := 0) (ks := 0) (av := [.int (1), .int (nI (gT S a 1)), .int (1)]) (st := []) (H.2.2.2.2.2.2.1 o9 ho).2.1 (en1) rfl rfl (Nat.le_of_ble_eq_true rfl)) ?_
  exact pxr (pm_iret (pc := 357) d_Sh_find_357 rfl pm_bn) ⟨by skip <;> rfl, by skip; exact H1, F1⟩
set_option maxHeartbeats 4000000 in
set_option maxRecDepth 20000 in
theorem f_13 {l : Launch} {G : pm_G} {fi : Bool} {h : pm_H} {S : gS} {a b o9 n xc : Nat} (hl : l.stackTraces = false) (H : gH S h) (hW : gW S) (hn : n < 14) (ha : a < 20) (hb : b < 20) (ho : o9 < 20) (hop : gN S n 1 = 13) : pm_Cn l G fi fi 0 0 M_Sh_find [.ref (67 + 2 * n), .ref (8 + 3 * a), .ref (8 + 3 * b), .ref (xc), .ref (8 + 3 * o9)] h (g_PS S o9 h (if gT S a 0 = gT S b 0 then if gQ S n 0 = 0 then if gT S a 2 = gT S b 2 then g_sh (gT S a 0) (gT S a 1 + gT S b 1) (gT S a 2) else none else if gQ S n 0 = 1 then if gT S a 1 = gT S b 1 then g_sh (gT S a 0) (gT S a 1) (gT S a 2 + gT S b 2) else none else none else none)) := by
  refine pm_Cn.of hl (by decide) (Nat.le_of_ble_eq_true rfl) ?_
  have ba := hW.2.2.2.2.1 a ha
  have bb := hW.2.2.2.2.1 b hb
  refine px (fun _ => pm_aload_n (pc := 0) d_Sh_find_0 rfl) ?_
  refine px (fun _ => pm_getf fl_Sh_9 (pc := 1) d_Sh_find_1 (H.2.2.2.2.2.2.2 n hn).1 rfl) ?_
  have tx_4 : (nI (gN S n 1) : Int32).toInt = 13 := by rw [hop]; rfl
  refine px (fun _ => pm_tabIn (off := 354) (tgt := 358) (pc := 4) d_Sh_find_4 (by rw [tx_4]; decide) (by rw [tx_4]; decide) (by rw [tx_4]; rfl) (by decide)) ?_
  refine px (fun _ => pm_aload_n (pc := 358) d_Sh_find_358 rfl) ?_
  refine px (fun _ => pm_getf fl_Sh_15 (pc := 359) d_Sh_find_359 (H.2.2.2.2.2.2.1 a ha).2.1 rfl) ?_
  refine px (fun _ => pm_aload_n (pc := 362) d_Sh_find_362 rfl) ?_
  refine px (fun _ => pm_getf fl_Sh_15 (pc := 363) d_Sh_find_363 (H.2.2.2.2.2.2.1 b hb).2.1 rfl) ?_
  refine pxn (fun _ => pm_icmp_ne (pc := 366) (tgt := 387) d_Sh_find_366 (by decide)) (fun c_1 => ?_) (fun c_1 => ?_)
  · have n_c_1 : ¬ ((gT S a 0) = (gT S b 0)) := fun q => c_1 ((nI_eq (a := (gT S a 0)) (b := (gT S b 0)) (by omega) (by omega)).mpr q)
    refine px (fun _ => pm_iconst (v := 0) (pc := 387) d_Sh_find_387 rfl) ?_
    have fx : ¬ (gT S a 0 = gT S b 0) := by omega
    exact pxr (pm_iret (pc := 388) d_Sh_find_388 rfl rfl) ⟨by rw [if_neg fx] <;> rfl, by rw [if_neg fx]; exact H, gFr.rf h⟩
  · have n_c_1 : (gT S a 0) = (gT S b 0) := (nI_eq (a := (gT S a 0)) (b := (gT S b 0)) (by omega) (by omega)).mp c_1
    refine px (fun _ => pm_aload_n (pc := 369) d_Sh_find_369 rfl) ?_
    refine px (fun _ => pm_getf fl_Sh_40 (pc := 370) d_Sh_find_370 (H.2.2.2.2.2.2.2 n hn).1 rfl) ?_
    refine px (fun _ => pm_aload_n (pc := 373) d_Sh_find_373 rfl) ?_
    refine px (fun _ => pm_aload_n (pc := 374) d_Sh_find_374 rfl) ?_
    refine px (fun _ => pm_aload (pc := 375) d_Sh_find_375 rfl) ?_
    obtain ⟨⟨o2, h2⟩, ⟨e2, H2, F2⟩, en2⟩ := c_jo (l := l) (G := G) (fi := fi) hl H hW ha hb ho
    dsimp only at e2 H2 F2
    subst e2
    refine px (fun _ => k_Sh_find_377 (kc1 := 0) (ks1 := 0) (kc := 0) (ks := 0) (av := [.int (gQ S n 0), .ref (8 + 3 * a), .ref (8 + 3 * b), .ref (8 + 3 * o9)]) (st := []) (en2) rfl rfl (Nat.le_of_ble_eq_true rfl)) ?_
    refine pxb (fun _ => pm_if_eq (pc := 380) (tgt := 387) d_Sh_find_380 (by decide)) (fun c_3 => ?_) (fun c_3 => ?_)
    · have n_c_3 : ¬ ((if gQ S n 0 = 0 then if gT S a 2 = gT S b 2 then g_sh (gT S a 0) (gT S a 1 + gT S b 1) (gT S a 2) else none else if gQ S n 0 = 1 then if gT S a 1 = gT S b 1 then g_sh (gT S a 0) (gT S a 1) (gT S a 2 + gT S b 2) else none else none).isSome = true) := g_if0.mp c_3
      refine px (fun _ => pm_iconst (v := 0) (pc := 387) d_Sh_find_387 rfl) ?_
      have fx : gT S a 0 = gT S b 0 := by omega
      exact pxr (pm_iret (pc := 388) d_Sh_find_388 rfl rfl) ⟨by rw [if_pos fx]; rw [if_neg n_c_3], by rw [if_pos fx]; exact H2, F2⟩
    · have n_c_3 : (if gQ S n 0 = 0 then if gT S a 2 = gT S b 2 then g_sh (gT S a 0) (gT S a 1 + gT S b 1) (gT S a 2) else none else if gQ S n 0 = 1 then if gT S a 1 = gT S b 1 then g_sh (gT S a 0) (gT S a 1) (gT S a 2 + gT S b 2) else none else none).isSome = true := Decidable.byContradiction fun q => c_3 (g_if0.mpr q)
      refine px (fun _ => pm_iconst (v := 1) (pc := 383) d_Sh_find_383 rfl) ?_
      refine px (fun _ => pm_goto (tgt := 388) (pc := 384) d_Sh_find_384 (by decide)) ?_
      have fx : gT S a 0 = gT S b 0 := by omega
      exact pxr (pm_iret (pc := 388) d_Sh_find_388 rfl rfl) ⟨by rw [if_pos fx]; rw [if_pos n_c_3], by rw [if_pos fx]; exact H2, F2⟩
set_option maxHeartbeats 4000000 in
set_option maxRecDepth 20000 in
theorem f_14y {l : Launch} {G : pm_G} {fi : Bool} {h : pm_H} {S : gS} {a o9 n xb xc : Nat} {p u : Nat} (hl : l.stackTraces = false) (H : gH S h) (hW : gW S) (hn : n < 14) (ha : a < 20) (ho : o9 < 20) (hop : gN S n 1 = 14) (hp : gQ S n 0 = nI p) (hq : gQ S n 1 = nI u) (le : p ≤ u) (q2 : u < 1000) : pm_Cn l G fi fi 0 0 M_Sh_find [.ref (67 + 2 * n), .ref (8 + 3 * a), .ref (xb), .ref (xc), .ref (8 + 3 * o9)] h (g_PS S o9 h (if u < gT S a 1 then g_sh (gT S a 0) (u - p + 1) (gT S a 2) else none)) := by
  refine pm_Cn.of hl (by decide) (Nat.le_of_ble_eq_true rfl) ?_
  have ba := hW.2.2.2.2.1 a ha
  have hnd : h[67 + 2 * n]? = some (pm_Ob 0 [.ref (68 + 2 * n), .int (nI (gN S n 0)), .int (nI (gN S n 1)), .int (nI (gN S n 2)), .int (nI p), .int (nI u), .int (nI (gN S n 3)), .int (nI (gN S n 4)), .int (nI (gN S n 5))]) := by
    first | rw [← hp, ← hq] | rw [← hp]
    exact (H.2.2.2.2.2.2.2 n hn).1
  refine px (fun _ => pm_aload_n (pc := 0) d_Sh_find_0 rfl) ?_
  refine px (fun _ => pm_getf fl_Sh_9 (pc := 1) d_Sh_find_1 hnd rfl) ?_
  have tx_4 : (nI (gN S n 1) : Int32).toInt = 14 := by rw [hop]; rfl
  refine px (fun _ => pm_tabIn (off := 385) (tgt := 389) (pc := 4) d_Sh_find_4 (by rw [tx_4]; decide) (by rw [tx_4]; decide) (by rw [tx_4]; rfl) (by decide)) ?_
  refine px (fun _ => pm_aload_n (pc := 389) d_Sh_find_389 rfl) ?_
  refine px (fun _ => pm_getf fl_Sh_40 (pc := 390) d_Sh_find_390 hnd rfl) ?_
  refine pxb (fun _ => pm_if_lt (pc := 393) (tgt := 449) d_Sh_find_393 (by decide)) (fun c_1 => absurd c_1 (nI_pos (by omega))) (fun c_1 => ?_)
  refine px (fun _ => pm_aload_n (pc := 396) d_Sh_find_396 rfl) ?_
  refine px (fun _ => pm_getf fl_Sh_40 (pc := 397) d_Sh_find_397 hnd rfl) ?_
  refine px (fun _ => pm_aload_n (pc := 400) d_Sh_find_400 rfl) ?_
  refine px (fun _ => pm_getf fl_Sh_55 (pc := 401) d_Sh_find_401 hnd rfl) ?_
  refine pxb (fun _ => pm_icmp_gt (pc := 404) (tgt := 449) d_Sh_find_404 (by decide)) (fun c_2 => absurd c_2 (fun q => absurd ((nI_ltI (a := u) (b := p) (by omega) (by omega)).mp q) (by omega))) (fun c_2 => ?_)
  refine px (fun _ => pm_aload_n (pc := 407) d_Sh_find_407 rfl) ?_
  refine px (fun _ => pm_getf fl_Sh_55 (pc := 408) d_Sh_find_408 hnd rfl) ?_
  refine px (fun _ => pm_aload_n (pc := 411) d_Sh_find_411 rfl) ?_
  refine px (fun _ => pm_getf fl_Sh_33 (pc := 412) d_Sh_find_412 (H.2.2.2.2.2.2.1 a ha).2.1 rfl) ?_
  refine pxb (fun _ => pm_icmp_ge (pc := 415) (tgt := 449) d_Sh_find_415 (by decide)) (fun c_3 => ?_) (fun c_3 => ?_)
  · have n_c_3 : (gT S a 1) ≤ u := (nI_leI (a := (gT S a 1)) (b := u) (by omega) (by omega)).mp c_3
    refine px (fun _ => pm_iconst (v := 0) (pc := 449) d_Sh_find_449 rfl) ?_
    have fx : ¬ (u < gT S a 1) := by omega
    exact pxr (pm_iret (pc := 450) d_Sh_find_450 rfl rfl) ⟨by rw [if_neg fx] <;> rfl, by rw [if_neg fx]; exact H, gFr.rf h⟩
  · have n_c_3 : ¬ ((gT S a 1) ≤ u) := fun q => c_3 ((nI_leI (a := (gT S a 1)) (b := u) (by omega) (by omega)).mpr q)
    refine px (fun _ => pm_aload (pc := 418) d_Sh_find_418 rfl) ?_
    refine px (fun _ => pm_aload_n (pc := 420) d_Sh_find_420 rfl) ?_
    refine px (fun _ => pm_getf fl_Sh_15 (pc := 421) d_Sh_find_421 (H.2.2.2.2.2.2.1 a ha).2.1 rfl) ?_
    refine px (fun _ => pm_aload_n (pc := 424) d_Sh_find_424 rfl) ?_
    refine px (fun _ => pm_getf fl_Sh_55 (pc := 425) d_Sh_find_425 hnd rfl) ?_
    refine px (fun _ => pm_aload_n (pc := 428) d_Sh_find_428 rfl) ?_
    refine px (fun _ => pm_getf fl_Sh_40 (pc := 429) d_Sh_find_429 hnd rfl) ?_
    refine px (fun _ => pm_isubN (a := u) (b := p) (pc := 432) d_Sh_find_432 (le)) ?_
    refine px (fun _ => pm_iconst (v := 1) (pc := 433) d_Sh_find_433 rfl) ?_
    refine px (fun _ => pm_iaddN (a := (u - p)) (b := 1) (pc := 434) d_Sh_find_434) ?_
    refine px (fun _ => pm_aload_n (pc := 435) d_Sh_find_435 rfl) ?_
    refine px (fun _ => pm_getf fl_Sh_30 (pc := 436) d_Sh_find_436 (H.2.2.2.2.2.2.1 a ha).2.1 rfl) ?_
    obtain ⟨⟨o4, h4⟩, ⟨e4, H4, F4⟩, en4⟩ := c_shape2 (l := l) (G := G) (fi := fi) (t := gT S a 0) (r := u - p + 1) (c := gT S a 2) hl H hW ho (by omega) (by omega)
    dsimp only at e4 H4 F4
    subst e4
    refine px (fun _ => k_Sh_find_439 (kc1 := 0) (ks1 := 0) (kc := 0) (ks := 0) (av := [.int (nI (gT S a 0)), .int (nI ((u - p) + 1)), .int (nI (gT S a 2))]) (st := []) (H.2.2.2.2.2.2.1 o9 ho).2.1 (en4) rfl rfl (Nat.le_of_ble_eq_true rfl)) ?_
    refine pxb (fun _ => pm_if_eq (pc := 442) (tgt := 449) d_Sh_find_442 (by decide)) (fun c_5 => ?_) (fun c_5 => ?_)
    · have n_c_5 : ¬ ((g_sh (gT S a 0) (u - p + 1) (gT S a 2)).isSome = true) := g_if0.mp c_5
      refine px (fun _ => pm_iconst (v := 0) (pc := 449) d_Sh_find_449 rfl) ?_
      have fx : u < gT S a 1 := by omega
      exact pxr (pm_iret (pc := 450) d_Sh_find_450 rfl rfl) ⟨by rw [if_pos fx]; rw [if_neg n_c_5], by rw [if_pos fx]; exact H4, F4⟩
    · have n_c_5 : (g_sh (gT S a 0) (u - p + 1) (gT S a 2)).isSome = true := Decidable.byContradiction fun q => c_5 (g_if0.mpr q)
      refine px (fun _ => pm_iconst (v := 1) (pc := 445) d_Sh_find_445 rfl) ?_
      refine px (fun _ => pm_goto (tgt := 450) (pc := 446) d_Sh_find_446 (by decide)) ?_
      have fx : u < gT S a 1 := by omega
      exact pxr (pm_iret (pc := 450) d_Sh_find_450 rfl rfl) ⟨by rw [if_pos fx]; rw [if_pos n_c_5], by rw [if_pos fx]; exact H4, F4⟩
set_option maxHeartbeats 4000000 in
set_option maxRecDepth 20000 in
theorem f_14n {l : Launch} {G : pm_G} {fi : Bool} {h : pm_H} {S : gS} {a o9 n xb xc : Nat} (hl : l.stackTraces = false) (H : gH S h) (hW : gW S) (hn : n < 14) (ha : a < 20) (ho : o9 < 20) (hop : gN S n 1 = 14) (hb9 : ¬ (¬ gQ S n 0 < 0 ∧ ¬ gQ S n 1 < gQ S n 0)) : pm_Cn l G fi fi 0 0 M_Sh_find [.ref (67 + 2 * n), .ref (8 + 3 * a), .ref (xb), .ref (xc), .ref (8 + 3 * o9)] h (g_PS S o9 h (none)) := by
  refine pm_Cn.of hl (by decide) (Nat.le_of_ble_eq_true rfl) ?_
  have ba := hW.2.2.2.2.1 a ha
  refine px (fun _ => pm_aload_n (pc := 0) d_Sh_find_0 rfl) ?_
  refine px (fun _ => pm_getf fl_Sh_9 (pc := 1) d_Sh_find_1 (H.2.2.2.2.2.2.2 n hn).1 rfl) ?_
  have tx_4 : (nI (gN S n 1) : Int32).toInt = 14 := by rw [hop]; rfl
  refine px (fun _ => pm_tabIn (off := 385) (tgt := 389) (pc := 4) d_Sh_find_4 (by rw [tx_4]; decide) (by rw [tx_4]; decide) (by rw [tx_4]; rfl) (by decide)) ?_
  refine px (fun _ => pm_aload_n (pc := 389) d_Sh_find_389 rfl) ?_
  refine px (fun _ => pm_getf fl_Sh_40 (pc := 390) d_Sh_find_390 (H.2.2.2.2.2.2.2 n hn).1 rfl) ?_
  refine pxb (fun _ => pm_if_lt (pc := 393) (tgt := 449) d_Sh_find_393 (by decide)) (fun c_1 => ?_) (fun c_1 => ?_)
  · refine px (fun _ => pm_iconst (v := 0) (pc := 449) d_Sh_find_449 rfl) ?_
    exact pxr (pm_iret (pc := 450) d_Sh_find_450 rfl rfl) ⟨rfl, H, gFr.rf h⟩
  · refine px (fun _ => pm_aload_n (pc := 396) d_Sh_find_396 rfl) ?_
    refine px (fun _ => pm_getf fl_Sh_40 (pc := 397) d_Sh_find_397 (H.2.2.2.2.2.2.2 n hn).1 rfl) ?_
    refine px (fun _ => pm_aload_n (pc := 400) d_Sh_find_400 rfl) ?_
    refine px (fun _ => pm_getf fl_Sh_55 (pc := 401) d_Sh_find_401 (H.2.2.2.2.2.2.2 n hn).1 rfl) ?_
    refine pxb (fun _ => pm_icmp_gt (pc := 404) (tgt := 449) d_Sh_find_404 (by decide)) (fun c_2 => ?_) (fun c_2 => ?_)
    · refine px (fun _ => pm_iconst (v := 0) (pc := 449) d_Sh_find_449 rfl) ?_
      exact pxr (pm_iret (pc := 450) d_Sh_find_450 rfl rfl) ⟨rfl, H, gFr.rf h⟩
    · exact absurd ⟨by assumption, by assumption⟩ hb9
set_option maxHeartbeats 4000000 in
set_option maxRecDepth 20000 in
theorem f_15 {l : Launch} {G : pm_G} {fi : Bool} {h : pm_H} {S : gS} {a b o9 n xc : Nat} (hl : l.stackTraces = false) (H : gH S h) (hW : gW S) (hn : n < 14) (ha : a < 20) (hb : b < 20) (ho : o9 < 20) (hop : gN S n 1 = 15) : pm_Cn l G fi fi 0 0 M_Sh_find [.ref (67 + 2 * n), .ref (8 + 3 * a), .ref (8 + 3 * b), .ref (xc), .ref (8 + 3 * o9)] h (g_PS S o9 h (if gT S b 0 = 1 ∧ gT S b 1 = 1 then g_sh (gT S a 0) (gT S b 2) (gT S a 2) else none)) := by
  refine pm_Cn.of hl (by decide) (Nat.le_of_ble_eq_true rfl) ?_
  have ba := hW.2.2.2.2.1 a ha
  have bb := hW.2.2.2.2.1 b hb
  refine px (fun _ => pm_aload_n (pc := 0) d_Sh_find_0 rfl) ?_
  refine px (fun _ => pm_getf fl_Sh_9 (pc := 1) d_Sh_find_1 (H.2.2.2.2.2.2.2 n hn).1 rfl) ?_
  have tx_4 : (nI (gN S n 1) : Int32).toInt = 15 := by rw [hop]; rfl
  refine px (fun _ => pm_tabIn (off := 447) (tgt := 451) (pc := 4) d_Sh_find_4 (by rw [tx_4]; decide) (by rw [tx_4]; decide) (by rw [tx_4]; rfl) (by decide)) ?_
  refine px (fun _ => pm_aload_n (pc := 451) d_Sh_find_451 rfl) ?_
  refine px (fun _ => pm_getf fl_Sh_15 (pc := 452) d_Sh_find_452 (H.2.2.2.2.2.2.1 b hb).2.1 rfl) ?_
  refine px (fun _ => pm_iconst (v := 1) (pc := 455) d_Sh_find_455 rfl) ?_
  refine pxn (fun _ => pm_icmp_ne (pc := 456) (tgt := 491) d_Sh_find_456 (by decide)) (fun c_1 => ?_) (fun c_1 => ?_)
  · have n_c_1 : ¬ ((gT S b 0) = 1) := fun q => c_1 ((nI_eq (a := (gT S b 0)) (b := 1) (by omega) (by omega)).mpr q)
    refine px (fun _ => pm_iconst (v := 0) (pc := 491) d_Sh_find_491 rfl) ?_
    have fx : ¬ (gT S b 0 = 1 ∧ gT S b 1 = 1) := by omega
    exact pxr (pm_iret (pc := 492) d_Sh_find_492 rfl rfl) ⟨by rw [if_neg fx] <;> rfl, by rw [if_neg fx]; exact H, gFr.rf h⟩
  · have n_c_1 : (gT S b 0) = 1 := (nI_eq (a := (gT S b 0)) (b := 1) (by omega) (by omega)).mp c_1
    refine px (fun _ => pm_aload_n (pc := 459) d_Sh_find_459 rfl) ?_
    refine px (fun _ => pm_getf fl_Sh_33 (pc := 460) d_Sh_find_460 (H.2.2.2.2.2.2.1 b hb).2.1 rfl) ?_
    refine px (fun _ => pm_iconst (v := 1) (pc := 463) d_Sh_find_463 rfl) ?_
    refine pxn (fun _ => pm_icmp_ne (pc := 464) (tgt := 491) d_Sh_find_464 (by decide)) (fun c_2 => ?_) (fun c_2 => ?_)
    · have n_c_2 : ¬ ((gT S b 1) = 1) := fun q => c_2 ((nI_eq (a := (gT S b 1)) (b := 1) (by omega) (by omega)).mpr q)
      refine px (fun _ => pm_iconst (v := 0) (pc := 491) d_Sh_find_491 rfl) ?_
      have fx : ¬ (gT S b 0 = 1 ∧ gT S b 1 = 1) := by omega
      exact pxr (pm_iret (pc := 492) d_Sh_find_492 rfl rfl) ⟨by rw [if_neg fx] <;> rfl, by rw [if_neg fx]; exact H, gFr.rf h⟩
    · have n_c_2 : (gT S b 1) = 1 := (nI_eq (a := (gT S b 1)) (b := 1) (by omega) (by omega)).mp c_2
      refine px (fun _ => pm_aload (pc := 467) d_Sh_find_467 rfl) ?_
      refine px (fun _ => pm_aload_n (pc := 469) d_Sh_find_469 rfl) ?_
      refine px (fun _ => pm_getf fl_Sh_15 (pc := 470) d_Sh_find_470 (H.2.2.2.2.2.2.1 a ha).2.1 rfl) ?_
      refine px (fun _ => pm_aload_n (pc := 473) d_Sh_find_473 rfl) ?_
      refine px (fun _ => pm_getf fl_Sh_30 (pc := 474) d_Sh_find_474 (H.2.2.2.2.2.2.1 b hb).2.1 rfl) ?_
      refine px (fun _ => pm_aload_n (pc := 477) d_Sh_find_477 rfl) ?_
      refine px (fun _ => pm_getf fl_Sh_30 (pc := 478) d_Sh_find_478 (H.2.2.2.2.2.2.1 a ha).2.1 rfl) ?_
      obtain ⟨⟨o3, h3⟩, ⟨e3, H3, F3⟩, en3⟩ := c_shape2 (l := l) (G := G) (fi := fi) (t := gT S a 0) (r := gT S b 2) (c := gT S a 2) hl H hW ho (by omega) (by omega)
      dsimp only at e3 H3 F3
      subst e3
      refine px (fun _ => k_Sh_find_481 (kc1 := 0) (ks1 := 0) (kc := 0) (ks := 0) (av := [.int (nI (gT S a 0)), .int (nI (gT S b 2)), .int (nI (gT S a 2))]) (st := []) (H.2.2.2.2.2.2.1 o9 ho).2.1 (en3) rfl rfl (Nat.le_of_ble_eq_true rfl)) ?_
      refine pxb (fun _ => pm_if_eq (pc := 484) (tgt := 491) d_Sh_find_484 (by decide)) (fun c_4 => ?_) (fun c_4 => ?_)
      · have n_c_4 : ¬ ((g_sh (gT S a 0) (gT S b 2) (gT S a 2)).isSome = true) := g_if0.mp c_4
        refine px (fun _ => pm_iconst (v := 0) (pc := 491) d_Sh_find_491 rfl) ?_
        have fx : gT S b 0 = 1 ∧ gT S b 1 = 1 := by omega
        exact pxr (pm_iret (pc := 492) d_Sh_find_492 rfl rfl) ⟨by rw [if_pos fx]; rw [if_neg n_c_4], by rw [if_pos fx]; exact H3, F3⟩
      · have n_c_4 : (g_sh (gT S a 0) (gT S b 2) (gT S a 2)).isSome = true := Decidable.byContradiction fun q => c_4 (g_if0.mpr q)
        refine px (fun _ => pm_iconst (v := 1) (pc := 487) d_Sh_find_487 rfl) ?_
        refine px (fun _ => pm_goto (tgt := 492) (pc := 488) d_Sh_find_488 (by decide)) ?_
        have fx : gT S b 0 = 1 ∧ gT S b 1 = 1 := by omega
        exact pxr (pm_iret (pc := 492) d_Sh_find_492 rfl rfl) ⟨by rw [if_pos fx]; rw [if_pos n_c_4], by rw [if_pos fx]; exact H3, F3⟩
set_option maxHeartbeats 4000000 in
set_option maxRecDepth 20000 in
theorem f_16 {l : Launch} {G : pm_G} {fi : Bool} {h : pm_H} {S : gS} {a b o9 n xc : Nat} {x : Option (Nat × Nat × Nat)} (hl : l.stackTraces = false) (H : gH S h) (hW : gW S) (hn : n < 14) (ha : a < 20) (hb : b < 20) (ho : o9 < 20) (hop : gN S n 1 = 16) (K9 : pm_Cn l G fi fi 0 0 M_Sh_findSlid [.ref (67 + 2 * n), .ref (8 + 3 * a), .ref (8 + 3 * b), .ref (8 + 3 * o9)] h (g_PS S o9 h x)) : pm_Cn l G fi fi 0 0 M_Sh_find [.ref (67 + 2 * n), .ref (8 + 3 * a), .ref (8 + 3 * b), .ref (xc), .ref (8 + 3 * o9)] h (g_PS S o9 h (if (gT S a 0 = 0 ∧ gT S b 0 = 0) ∧ gT S b 1 = 1 then x else none)) := by
  refine pm_Cn.of hl (by decide) (Nat.le_of_ble_eq_true rfl) ?_
  have ba := hW.2.2.2.2.1 a ha
  have bb := hW.2.2.2.2.1 b hb
  refine px (fun _ => pm_aload_n (pc := 0) d_Sh_find_0 rfl) ?_
  refine px (fun _ => pm_getf fl_Sh_9 (pc := 1) d_Sh_find_1 (H.2.2.2.2.2.2.2 n hn).1 rfl) ?_
  have tx_4 : (nI (gN S n 1) : Int32).toInt = 16 := by rw [hop]; rfl
  refine px (fun _ => pm_tabIn (off := 489) (tgt := 493) (pc := 4) d_Sh_find_4 (by rw [tx_4]; decide) (by rw [tx_4]; decide) (by rw [tx_4]; rfl) (by decide)) ?_
  refine px (fun _ => pm_aload_n (pc := 493) d_Sh_find_493 rfl) ?_
  refine px (fun _ => pm_aload_n (pc := 494) d_Sh_find_494 rfl) ?_
  refine px (fun _ => k_Sh_find_495 (kc1 := 0) (ks1 := 0) (kc := 0) (ks := 0) (av := [.ref (8 + 3 * a), .ref (8 + 3 * b)]) (st := []) (c_floats hl H hW ha hb) rfl rfl (Nat.le_of_ble_eq_true rfl)) ?_
  refine pxb (fun _ => pm_if_eq (pc := 498) (tgt := 524) d_Sh_find_498 (by decide)) (fun c_1 => ?_) (fun c_1 => ?_)
  · have n_c_1 : ¬ (gT S a 0 = 0 ∧ gT S b 0 = 0) := g_if0.mp c_1
    refine px (fun _ => pm_iconst (v := 0) (pc := 524) d_Sh_find_524 rfl) ?_
    have fx : ¬ ((gT S a 0 = 0 ∧ gT S b 0 = 0) ∧ gT S b 1 = 1) := by omega
    exact pxr (pm_iret (pc := 525) d_Sh_find_525 rfl rfl) ⟨by rw [if_neg fx] <;> rfl, by rw [if_neg fx]; exact H, gFr.rf h⟩
  · have n_c_1 : gT S a 0 = 0 ∧ gT S b 0 = 0 := Decidable.byContradiction fun q => c_1 (g_if0.mpr q)
    refine px (fun _ => pm_aload_n (pc := 501) d_Sh_find_501 rfl) ?_
    refine px (fun _ => pm_getf fl_Sh_33 (pc := 502) d_Sh_find_502 (H.2.2.2.2.2.2.1 b hb).2.1 rfl) ?_
    refine px (fun _ => pm_iconst (v := 1) (pc := 505) d_Sh_find_505 rfl) ?_
    refine pxn (fun _ => pm_icmp_ne (pc := 506) (tgt := 524) d_Sh_find_506 (by decide)) (fun c_2 => ?_) (fun c_2 => ?_)
    · have n_c_2 : ¬ ((gT S b 1) = 1) := fun q => c_2 ((nI_eq (a := (gT S b 1)) (b := 1) (by omega) (by omega)).mpr q)
      refine px (fun _ => pm_iconst (v := 0) (pc := 524) d_Sh_find_524 rfl) ?_
      have fx : ¬ ((gT S a 0 = 0 ∧ gT S b 0 = 0) ∧ gT S b 1 = 1) := by omega
      exact pxr (pm_iret (pc := 525) d_Sh_find_525 rfl rfl) ⟨by rw [if_neg fx] <;> rfl, by rw [if_neg fx]; exact H, gFr.rf h⟩
    · have n_c_2 : (gT S b 1) = 1 := (nI_eq (a := (gT S b 1)) (b := 1) (by omega) (by omega)).mp c_2
      refine px (fun _ => pm_aload_n (pc := 509) d_Sh_find_509 rfl) ?_
      refine px (fun _ => pm_aload_n (pc := 510) d_Sh_find_510 rfl) ?_
      refine px (fun _ => pm_aload_n (pc := 511) d_Sh_find_511 rfl) ?_
      refine px (fun _ => pm_aload (pc := 512) d_Sh_find_512 rfl) ?_
      obtain ⟨⟨o3, h3⟩, ⟨e3, H3, F3⟩, en3⟩ := K9
      dsimp only at e3 H3 F3
      subst e3
      refine px (fun _ => k_Sh_find_514 (kc1 := 0) (ks1 := 0) (kc := 0) (ks := 0) (av := [.ref (67 + 2 * n), .ref (8 + 3 * a), .ref (8 + 3 * b), .ref (8 + 3 * o9)]) (st := []) (en3) rfl rfl (Nat.le_of_ble_eq_true rfl)) ?_
      refine pxb (fun _ => pm_if_eq (pc := 517) (tgt := 524) d_Sh_find_517 (by decide)) (fun c_4 => ?_) (fun c_4 => ?_)
      · have n_c_4 : ¬ ((x).isSome = true) := g_if0.mp c_4
        refine px (fun _ => pm_iconst (v := 0) (pc := 524) d_Sh_find_524 rfl) ?_
        have fx : (gT S a 0 = 0 ∧ gT S b 0 = 0) ∧ gT S b 1 = 1 := by omega
        exact pxr (pm_iret (pc := 525) d_Sh_find_525 rfl rfl) ⟨by rw [if_pos fx]; rw [if_neg n_c_4], by rw [if_pos fx]; exact H3, F3⟩
      · have n_c_4 : (x).isSome = true := Decidable.byContradiction fun q => c_4 (g_if0.mpr q)
        refine px (fun _ => pm_iconst (v := 1) (pc := 520) d_Sh_find_520 rfl) ?_
        refine px (fun _ => pm_goto (tgt := 525) (pc := 521) d_Sh_find_521 (by decide)) ?_
        have fx : (gT S a 0 = 0 ∧ gT S b 0 = 0) ∧ gT S b 1 = 1 := by omega
        exact pxr (pm_iret (pc := 525) d_Sh_find_525 rfl rfl) ⟨by rw [if_pos fx]; rw [if_pos n_c_4], by rw [if_pos fx]; exact H3, F3⟩
set_option maxHeartbeats 4000000 in
set_option maxRecDepth 20000 in
theorem f_17 {l : Launch} {G : pm_G} {fi : Bool} {h : pm_H} {S : gS} {a b c o9 n : Nat} (hl : l.stackTraces = false) (H : gH S h) (hW : gW S) (hn : n < 14) (ha : a < 20) (hb : b < 20) (hc : c < 20) (ho : o9 < 20) (hop : gN S n 1 = 17) : pm_Cn l G fi fi 0 0 M_Sh_find [.ref (67 + 2 * n), .ref (8 + 3 * a), .ref (8 + 3 * b), .ref (8 + 3 * c), .ref (8 + 3 * o9)] h (g_PS S o9 h (if gT S c 0 = 1 ∧ gT S c 1 = 1 ∧ gT S c 2 = 1 ∧ (gT S a 0 = gT S b 0 ∧ gT S a 1 = gT S b 1 ∧ gT S a 2 = gT S b 2) then g_sh (gT S a 0) (gT S a 1) (gT S a 2) else none)) := by
  refine pm_Cn.of hl (by decide) (Nat.le_of_ble_eq_true rfl) ?_
  have ba := hW.2.2.2.2.1 a ha
  have bb := hW.2.2.2.2.1 b hb
  have bc := hW.2.2.2.2.1 c hc
  refine px (fun _ => pm_aload_n (pc := 0) d_Sh_find_0 rfl) ?_
  refine px (fun _ => pm_getf fl_Sh_9 (pc := 1) d_Sh_find_1 (H.2.2.2.2.2.2.2 n hn).1 rfl) ?_
  have tx_4 : (nI (gN S n 1) : Int32).toInt = 17 := by rw [hop]; rfl
  refine px (fun _ => pm_tabIn (off := 522) (tgt := 526) (pc := 4) d_Sh_find_4 (by rw [tx_4]; decide) (by rw [tx_4]; decide) (by rw [tx_4]; rfl) (by decide)) ?_
  refine px (fun _ => pm_aload_n (pc := 526) d_Sh_find_526 rfl) ?_
  refine px (fun _ => pm_getf fl_Sh_15 (pc := 527) d_Sh_find_527 (H.2.2.2.2.2.2.1 c hc).2.1 rfl) ?_
  refine px (fun _ => pm_iconst (v := 1) (pc := 530) d_Sh_find_530 rfl) ?_
  refine pxn (fun _ => pm_icmp_ne (pc := 531) (tgt := 582) d_Sh_find_531 (by decide)) (fun c_1 => ?_) (fun c_1 => ?_)
  · have n_c_1 : ¬ ((gT S c 0) = 1) := fun q => c_1 ((nI_eq (a := (gT S c 0)) (b := 1) (by omega) (by omega)).mpr q)
    refine px (fun _ => pm_iconst (v := 0) (pc := 582) d_Sh_find_582 rfl) ?_
    have fx : ¬ (gT S c 0 = 1 ∧ gT S c 1 = 1 ∧ gT S c 2 = 1 ∧ (gT S a 0 = gT S b 0 ∧ gT S a 1 = gT S b 1 ∧ gT S a 2 = gT S b 2)) := by omega
    exact pxr (pm_iret (pc := 583) d_Sh_find_583 rfl rfl) ⟨by rw [if_neg fx] <;> rfl, by rw [if_neg fx]; exact H, gFr.rf h⟩
  · have n_c_1 : (gT S c 0) = 1 := (nI_eq (a := (gT S c 0)) (b := 1) (by omega) (by omega)).mp c_1
    refine px (fun _ => pm_aload_n (pc := 534) d_Sh_find_534 rfl) ?_
    refine px (fun _ => pm_getf fl_Sh_33 (pc := 535) d_Sh_find_535 (H.2.2.2.2.2.2.1 c hc).2.1 rfl) ?_
    refine px (fun _ => pm_iconst (v := 1) (pc := 538) d_Sh_find_538 rfl) ?_
    refine pxn (fun _ => pm_icmp_ne (pc := 539) (tgt := 582) d_Sh_find_539 (by decide)) (fun c_2 => ?_) (fun c_2 => ?_)
    · have n_c_2 : ¬ ((gT S c 1) = 1) := fun q => c_2 ((nI_eq (a := (gT S c 1)) (b := 1) (by omega) (by omega)).mpr q)
      refine px (fun _ => pm_iconst (v := 0) (pc := 582) d_Sh_find_582 rfl) ?_
      have fx : ¬ (gT S c 0 = 1 ∧ gT S c 1 = 1 ∧ gT S c 2 = 1 ∧ (gT S a 0 = gT S b 0 ∧ gT S a 1 = gT S b 1 ∧ gT S a 2 = gT S b 2)) := by omega
      exact pxr (pm_iret (pc := 583) d_Sh_find_583 rfl rfl) ⟨by rw [if_neg fx] <;> rfl, by rw [if_neg fx]; exact H, gFr.rf h⟩
    · have n_c_2 : (gT S c 1) = 1 := (nI_eq (a := (gT S c 1)) (b := 1) (by omega) (by omega)).mp c_2
      refine px (fun _ => pm_aload_n (pc := 542) d_Sh_find_542 rfl) ?_
      refine px (fun _ => pm_getf fl_Sh_30 (pc := 543) d_Sh_find_543 (H.2.2.2.2.2.2.1 c hc).2.1 rfl) ?_
      refine px (fun _ => pm_iconst (v := 1) (pc := 546) d_Sh_find_546 rfl) ?_
      refine pxn (fun _ => pm_icmp_ne (pc := 547) (tgt := 582) d_Sh_find_547 (by decide)) (fun c_3 => ?_) (fun c_3 => ?_)
      · have n_c_3 : ¬ ((gT S c 2) = 1) := fun q => c_3 ((nI_eq (a := (gT S c 2)) (b := 1) (by omega) (by omega)).mpr q)
        refine px (fun _ => pm_iconst (v := 0) (pc := 582) d_Sh_find_582 rfl) ?_
        have fx : ¬ (gT S c 0 = 1 ∧ gT S c 1 = 1 ∧ gT S c 2 = 1 ∧ (gT S a 0 = gT S b 0 ∧ gT S a 1 = gT S b 1 ∧ gT S a 2 = gT S b 2)) := by omega
        exact pxr (pm_iret (pc := 583) d_Sh_find_583 rfl rfl) ⟨by rw [if_neg fx] <;> rfl, by rw [if_neg fx]; exact H, gFr.rf h⟩
      · have n_c_3 : (gT S c 2) = 1 := (nI_eq (a := (gT S c 2)) (b := 1) (by omega) (by omega)).mp c_3
        refine px (fun _ => pm_aload_n (pc := 550) d_Sh_find_550 rfl) ?_
        refine px (fun _ => pm_aload_n (pc := 551) d_Sh_find_551 rfl) ?_
        refine px (fun _ => k_Sh_find_552 (kc1 := 0) (ks1 := 0) (kc := 0) (ks := 0) (av := [.ref (8 + 3 * a), .ref (8 + 3 * b)]) (st := []) (c_alike hl H hW ha hb) rfl rfl (Nat.le_of_ble_eq_true rfl)) ?_
        refine pxb (fun _ => pm_if_eq (pc := 555) (tgt := 582) d_Sh_find_555 (by decide)) (fun c_4 => ?_) (fun c_4 => ?_)
        · have n_c_4 : ¬ (gT S a 0 = gT S b 0 ∧ gT S a 1 = gT S b 1 ∧ gT S a 2 = gT S b 2) := g_if0.mp c_4
          refine px (fun _ => pm_iconst (v := 0) (pc := 582) d_Sh_find_582 rfl) ?_
          have fx : ¬ (gT S c 0 = 1 ∧ gT S c 1 = 1 ∧ gT S c 2 = 1 ∧ (gT S a 0 = gT S b 0 ∧ gT S a 1 = gT S b 1 ∧ gT S a 2 = gT S b 2)) := by omega
          exact pxr (pm_iret (pc := 583) d_Sh_find_583 rfl rfl) ⟨by rw [if_neg fx] <;> rfl, by rw [if_neg fx]; exact H, gFr.rf h⟩
        · have n_c_4 : gT S a 0 = gT S b 0 ∧ gT S a 1 = gT S b 1 ∧ gT S a 2 = gT S b 2 := Decidable.byContradiction fun q => c_4 (g_if0.mpr q)
          refine px (fun _ => pm_aload (pc := 558) d_Sh_find_558 rfl) ?_
          refine px (fun _ => pm_aload_n (pc := 560) d_Sh_find_560 rfl) ?_
          refine px (fun _ => pm_getf fl_Sh_15 (pc := 561) d_Sh_find_561 (H.2.2.2.2.2.2.1 a ha).2.1 rfl) ?_
          refine px (fun _ => pm_aload_n (pc := 564) d_Sh_find_564 rfl) ?_
          refine px (fun _ => pm_getf fl_Sh_33 (pc := 565) d_Sh_find_565 (H.2.2.2.2.2.2.1 a ha).2.1 rfl) ?_
          refine px (fun _ => pm_aload_n (pc := 568) d_Sh_find_568 rfl) ?_
          refine px (fun _ => pm_getf fl_Sh_30 (pc := 569) d_Sh_find_569 (H.2.2.2.2.2.2.1 a ha).2.1 rfl) ?_
          obtain ⟨⟨o5, h5⟩, ⟨e5, H5, F5⟩, en5⟩ := c_shape2 (l := l) (G := G) (fi := fi) (t := gT S a 0) (r := gT S a 1) (c := gT S a 2) hl H hW ho (by omega) (by omega)
          dsimp only at e5 H5 F5
          subst e5
          refine px (fun _ => k_Sh_find_572 (kc1 := 0) (ks1 := 0) (kc := 0) (ks := 0) (av := [.int (nI (gT S a 0)), .int (nI (gT S a 1)), .int (nI (gT S a 2))]) (st := []) (H.2.2.2.2.2.2.1 o9 ho).2.1 (en5) rfl rfl (Nat.le_of_ble_eq_true rfl)) ?_
          refine pxb (fun _ => pm_if_eq (pc := 575) (tgt := 582) d_Sh_find_575 (by decide)) (fun c_6 => ?_) (fun c_6 => ?_)
          · have n_c_6 : ¬ ((g_sh (gT S a 0) (gT S a 1) (gT S a 2)).isSome = true) := g_if0.mp c_6
            refine px (fun _ => pm_iconst (v := 0) (pc := 582) d_Sh_find_582 rfl) ?_
            have fx : gT S c 0 = 1 ∧ gT S c 1 = 1 ∧ gT S c 2 = 1 ∧ (gT S a 0 = gT S b 0 ∧ gT S a 1 = gT S b 1 ∧ gT S a 2 = gT S b 2) := by omega
            exact pxr (pm_iret (pc := 583) d_Sh_find_583 rfl rfl) ⟨by rw [if_pos fx]; rw [if_neg n_c_6], by rw [if_pos fx]; exact H5, F5⟩
          · have n_c_6 : (g_sh (gT S a 0) (gT S a 1) (gT S a 2)).isSome = true := Decidable.byContradiction fun q => c_6 (g_if0.mpr q)
            refine px (fun _ => pm_iconst (v := 1) (pc := 578) d_Sh_find_578 rfl) ?_
            refine px (fun _ => pm_goto (tgt := 583) (pc := 579) d_Sh_find_579 (by decide)) ?_
            have fx : gT S c 0 = 1 ∧ gT S c 1 = 1 ∧ gT S c 2 = 1 ∧ (gT S a 0 = gT S b 0 ∧ gT S a 1 = gT S b 1 ∧ gT S a 2 = gT S b 2) := by omega
            exact pxr (pm_iret (pc := 583) d_Sh_find_583 rfl rfl) ⟨by rw [if_pos fx]; rw [if_pos n_c_6], by rw [if_pos fx]; exact H5, F5⟩
set_option maxHeartbeats 4000000 in
set_option maxRecDepth 20000 in
theorem f_9e {l : Launch} {G : pm_G} {fi : Bool} {h : pm_H} {S : gS} {a b c o9 n : Nat} (hl : l.stackTraces = false) (H : gH S h) (hW : gW S) (hn : n < 14) (ha : a < 20) (hb : b < 20) (hc : c < 20) (ho : o9 < 20) (hop : gN S n 1 = 9) (hb9 : ¬ (gT S c 0 = 1 ∧ gT S a 0 = gT S b 0)) : pm_Cn l G fi fi 0 0 M_Sh_find [.ref (67 + 2 * n), .ref (8 + 3 * a), .ref (8 + 3 * b), .ref (8 + 3 * c), .ref (8 + 3 * o9)] h (g_PS S o9 h (none)) := by
  refine pm_Cn.of hl (by decide) (Nat.le_of_ble_eq_true rfl) ?_
  have ba := hW.2.2.2.2.1 a ha
  have bb := hW.2.2.2.2.1 b hb
  have bc := hW.2.2.2.2.1 c hc
  refine px (fun _ => pm_aload_n (pc := 0) d_Sh_find_0 rfl) ?_
  refine px (fun _ => pm_getf fl_Sh_9 (pc := 1) d_Sh_find_1 (H.2.2.2.2.2.2.2 n hn).1 rfl) ?_
  have tx_4 : (nI (gN S n 1) : Int32).toInt = 9 := by rw [hop]; rfl
  refine px (fun _ => pm_tabIn (off := 277) (tgt := 281) (pc := 4) d_Sh_find_4 (by rw [tx_4]; decide) (by rw [tx_4]; decide) (by rw [tx_4]; rfl) (by decide)) ?_
  refine px (fun _ => pm_aload_n (pc := 281) d_Sh_find_281 rfl) ?_
  refine px (fun _ => pm_getf fl_Sh_15 (pc := 282) d_Sh_find_282 (H.2.2.2.2.2.2.1 c hc).2.1 rfl) ?_
  refine px (fun _ => pm_iconst (v := 1) (pc := 285) d_Sh_find_285 rfl) ?_
  refine pxn (fun _ => pm_icmp_ne (pc := 286) (tgt := 333) d_Sh_find_286 (by decide)) (fun c_1 => ?_) (fun c_1 => ?_)
  · have n_c_1 : ¬ ((gT S c 0) = 1) := fun q => c_1 ((nI_eq (a := (gT S c 0)) (b := 1) (by omega) (by omega)).mpr q)
    refine px (fun _ => pm_iconst (v := 0) (pc := 333) d_Sh_find_333 rfl) ?_
    exact pxr (pm_iret (pc := 334) d_Sh_find_334 rfl rfl) ⟨rfl, H, gFr.rf h⟩
  · have n_c_1 : (gT S c 0) = 1 := (nI_eq (a := (gT S c 0)) (b := 1) (by omega) (by omega)).mp c_1
    refine px (fun _ => pm_aload_n (pc := 289) d_Sh_find_289 rfl) ?_
    refine px (fun _ => pm_getf fl_Sh_15 (pc := 290) d_Sh_find_290 (H.2.2.2.2.2.2.1 a ha).2.1 rfl) ?_
    refine px (fun _ => pm_aload_n (pc := 293) d_Sh_find_293 rfl) ?_
    refine px (fun _ => pm_getf fl_Sh_15 (pc := 294) d_Sh_find_294 (H.2.2.2.2.2.2.1 b hb).2.1 rfl) ?_
    refine pxn (fun _ => pm_icmp_ne (pc := 297) (tgt := 333) d_Sh_find_297 (by decide)) (fun c_2 => ?_) (fun c_2 => ?_)
    · have n_c_2 : ¬ ((gT S a 0) = (gT S b 0)) := fun q => c_2 ((nI_eq (a := (gT S a 0)) (b := (gT S b 0)) (by omega) (by omega)).mpr q)
      refine px (fun _ => pm_iconst (v := 0) (pc := 333) d_Sh_find_333 rfl) ?_
      exact pxr (pm_iret (pc := 334) d_Sh_find_334 rfl rfl) ⟨rfl, H, gFr.rf h⟩
    · have n_c_2 : (gT S a 0) = (gT S b 0) := (nI_eq (a := (gT S a 0)) (b := (gT S b 0)) (by omega) (by omega)).mp c_2
      exact absurd ⟨by assumption, by assumption⟩ hb9
set_option maxHeartbeats 4000000 in
set_option maxRecDepth 20000 in
theorem f_9n {l : Launch} {G : pm_G} {fi : Bool} {h : pm_H} {S : gS} {a b c o9 n : Nat} (hl : l.stackTraces = false) (H : gH S h) (hW : gW S) (hn : n < 14) (ha : a < 20) (hb : b < 20) (hc : c < 20) (ho : o9 < 20) (hop : gN S n 1 = 9) (h1 : gT S c 0 = 1) (h2 : gT S a 0 = gT S b 0) (K9 : pm_Cn l G fi fi 0 0 M_Sh_fit [.ref (8 + 3 * a), .ref (8 + 3 * b), .int (nI (gT S a 0)), .ref (8 + 3 * o9)] h (g_PS S o9 h none)) : pm_Cn l G fi fi 0 0 M_Sh_find [.ref (67 + 2 * n), .ref (8 + 3 * a), .ref (8 + 3 * b), .ref (8 + 3 * c), .ref (8 + 3 * o9)] h (g_PS S o9 h (none)) := by
  refine pm_Cn.of hl (by decide) (Nat.le_of_ble_eq_true rfl) ?_
  have ba := hW.2.2.2.2.1 a ha
  have bb := hW.2.2.2.2.1 b hb
  have bc := hW.2.2.2.2.1 c hc
  refine px (fun _ => pm_aload_n (pc := 0) d_Sh_find_0 rfl) ?_
  refine px (fun _ => pm_getf fl_Sh_9 (pc := 1) d_Sh_find_1 (H.2.2.2.2.2.2.2 n hn).1 rfl) ?_
  have tx_4 : (nI (gN S n 1) : Int32).toInt = 9 := by rw [hop]; rfl
  refine px (fun _ => pm_tabIn (off := 277) (tgt := 281) (pc := 4) d_Sh_find_4 (by rw [tx_4]; decide) (by rw [tx_4]; decide) (by rw [tx_4]; rfl) (by decide)) ?_
  refine px (fun _ => pm_aload_n (pc := 281) d_Sh_find_281 rfl) ?_
  refine px (fun _ => pm_getf fl_Sh_15 (pc := 282) d_Sh_find_282 (H.2.2.2.2.2.2.1 c hc).2.1 rfl) ?_
  refine px (fun _ => pm_iconst (v := 1) (pc := 285) d_Sh_find_285 rfl) ?_
  refine pxn (fun _ => pm_icmp_ne (pc := 286) (tgt := 333) d_Sh_find_286 (by decide)) (fun c_1 => absurd (by rw [h1]; rfl) c_1) (fun c_1 => ?_)
  refine px (fun _ => pm_aload_n (pc := 289) d_Sh_find_289 rfl) ?_
  refine px (fun _ => pm_getf fl_Sh_15 (pc := 290) d_Sh_find_290 (H.2.2.2.2.2.2.1 a ha).2.1 rfl) ?_
  refine px (fun _ => pm_aload_n (pc := 293) d_Sh_find_293 rfl) ?_
  refine px (fun _ => pm_getf fl_Sh_15 (pc := 294) d_Sh_find_294 (H.2.2.2.2.2.2.1 b hb).2.1 rfl) ?_
  refine pxn (fun _ => pm_icmp_ne (pc := 297) (tgt := 333) d_Sh_find_297 (by decide)) (fun c_2 => absurd (by rw [h2]) c_2) (fun c_2 => ?_)
  refine px (fun _ => pm_aload_n (pc := 300) d_Sh_find_300 rfl) ?_
  refine px (fun _ => pm_aload_n (pc := 301) d_Sh_find_301 rfl) ?_
  refine px (fun _ => pm_aload_n (pc := 302) d_Sh_find_302 rfl) ?_
  refine px (fun _ => pm_getf fl_Sh_15 (pc := 303) d_Sh_find_303 (H.2.2.2.2.2.2.1 a ha).2.1 rfl) ?_
  refine px (fun _ => pm_aload (pc := 306) d_Sh_find_306 rfl) ?_
  obtain ⟨⟨o3, h3⟩, ⟨e3, H3, F3⟩, en3⟩ := K9
  dsimp only at e3 H3 F3
  subst e3
  refine px (fun _ => k_Sh_find_308 (kc1 := 0) (ks1 := 0) (kc := 0) (ks := 0) (av := [.ref (8 + 3 * a), .ref (8 + 3 * b), .int (nI (gT S a 0)), .ref (8 + 3 * o9)]) (st := []) (en3) rfl rfl (Nat.le_of_ble_eq_true rfl)) ?_
  refine pxb (fun _ => pm_if_eq (pc := 311) (tgt := 333) d_Sh_find_311 (by decide)) (fun c_4 => ?_) (fun c_4 => absurd (by decide) c_4)
  refine px (fun _ => pm_iconst (v := 0) (pc := 333) d_Sh_find_333 rfl) ?_
  exact pxr (pm_iret (pc := 334) d_Sh_find_334 rfl rfl) ⟨rfl, H3, F3⟩
set_option maxHeartbeats 4000000 in
set_option maxRecDepth 20000 in
theorem f_9y {l : Launch} {G : pm_G} {fi : Bool} {h : pm_H} {S : gS} {a b c o9 n : Nat} {S1 : gS} {x9 : Nat × Nat × Nat} (hl : l.stackTraces = false) (H : gH S h) (hW : gW S) (hn : n < 14) (ha : a < 20) (hb : b < 20) (hc : c < 20) (ho : o9 < 20) (hop : gN S n 1 = 9) (h1 : gT S c 0 = 1) (h2 : gT S a 0 = gT S b 0) (e1 : S1 = g_pt S o9 (some x9)) (hW1 : gW S1) (K9 : pm_Cn l G fi fi 0 0 M_Sh_fit [.ref (8 + 3 * a), .ref (8 + 3 * b), .int (nI (gT S a 0)), .ref (8 + 3 * o9)] h (g_PS S o9 h (some x9))) : pm_Cn l G fi fi 0 0 M_Sh_find [.ref (67 + 2 * n), .ref (8 + 3 * a), .ref (8 + 3 * b), .ref (8 + 3 * c), .ref (8 + 3 * o9)] h (g_PS S1 o9 h (if (gT S1 o9 1 = gT S1 c 1 ∨ gT S1 o9 1 = 1 ∨ gT S1 c 1 = 1) ∧ (gT S1 o9 2 = gT S1 c 2 ∨ gT S1 o9 2 = 1 ∨ gT S1 c 2 = 1) then g_sh (gT S1 a 0) (max (gT S1 o9 1) (gT S1 c 1)) (max (gT S1 o9 2) (gT S1 c 2)) else none)) := by
  refine pm_Cn.of hl (by decide) (Nat.le_of_ble_eq_true rfl) ?_
  have ba := hW.2.2.2.2.1 a ha
  have bb := hW.2.2.2.2.1 b hb
  have bc := hW.2.2.2.2.1 c hc
  refine px (fun _ => pm_aload_n (pc := 0) d_Sh_find_0 rfl) ?_
  refine px (fun _ => pm_getf fl_Sh_9 (pc := 1) d_Sh_find_1 (H.2.2.2.2.2.2.2 n hn).1 rfl) ?_
  have tx_4 : (nI (gN S n 1) : Int32).toInt = 9 := by rw [hop]; rfl
  refine px (fun _ => pm_tabIn (off := 277) (tgt := 281) (pc := 4) d_Sh_find_4 (by rw [tx_4]; decide) (by rw [tx_4]; decide) (by rw [tx_4]; rfl) (by decide)) ?_
  refine px (fun _ => pm_aload_n (pc := 281) d_Sh_find_281 rfl) ?_
  refine px (fun _ => pm_getf fl_Sh_15 (pc := 282) d_Sh_find_282 (H.2.2.2.2.2.2.1 c hc).2.1 rfl) ?_
  refine px (fun _ => pm_iconst (v := 1) (pc := 285) d_Sh_find_285 rfl) ?_
  refine pxn (fun _ => pm_icmp_ne (pc := 286) (tgt := 333) d_Sh_find_286 (by decide)) (fun c_1 => absurd (by rw [h1]; rfl) c_1) (fun c_1 => ?_)
  refine px (fun _ => pm_aload_n (pc := 289) d_Sh_find_289 rfl) ?_
  refine px (fun _ => pm_getf fl_Sh_15 (pc := 290) d_Sh_find_290 (H.2.2.2.2.2.2.1 a ha).2.1 rfl) ?_
  refine px (fun _ => pm_aload_n (pc := 293) d_Sh_find_293 rfl) ?_
  refine px (fun _ => pm_getf fl_Sh_15 (pc := 294) d_Sh_find_294 (H.2.2.2.2.2.2.1 b hb).2.1 rfl) ?_
  refine pxn (fun _ => pm_icmp_ne (pc := 297) (tgt := 333) d_Sh_find_297 (by decide)) (fun c_2 => absurd (by rw [h2]) c_2) (fun c_2 => ?_)
  refine px (fun _ => pm_aload_n (pc := 300) d_Sh_find_300 rfl) ?_
  refine px (fun _ => pm_aload_n (pc := 301) d_Sh_find_301 rfl) ?_
  refine px (fun _ => pm_aload_n (pc := 302) d_Sh_find_302 rfl) ?_
  refine px (fun _ => pm_getf fl_Sh_15 (pc := 303) d_Sh_find_303 (H.2.2.2.2.2.2.1 a ha).2.1 rfl) ?_
  refine px (fun _ => pm_aload (pc := 306) d_Sh_find_306 rfl) ?_
  obtain ⟨⟨o3, h3⟩, ⟨e3, H3, F3⟩, en3⟩ := K9
  dsimp only at e3 H3 F3
  subst e3
  rw [← e1] at H3
  refine px (fun _ => k_Sh_find_308 (kc1 := 0) (ks1 := 0) (kc := 0) (ks := 0) (av := [.ref (8 + 3 * a), .ref (8 + 3 * b), .int (nI (gT S a 0)), .ref (8 + 3 * o9)]) (st := []) (en3) rfl rfl (Nat.le_of_ble_eq_true rfl)) ?_
  refine pxb (fun _ => pm_if_eq (pc := 311) (tgt := 333) d_Sh_find_311 (by decide)) (fun c_4 => absurd c_4 (by simp)) (fun c_4 => ?_)
  refine px (fun _ => pm_aload (pc := 314) d_Sh_find_314 rfl) ?_
  refine px (fun _ => pm_aload_n (pc := 316) d_Sh_find_316 rfl) ?_
  refine px (fun _ => pm_aload_n (pc := 317) d_Sh_find_317 rfl) ?_
  refine px (fun _ => pm_getf fl_Sh_15 (pc := 318) d_Sh_find_318 (H3.2.2.2.2.2.2.1 a ha).2.1 rfl) ?_
  refine px (fun _ => pm_aload (pc := 321) d_Sh_find_321 rfl) ?_
  obtain ⟨⟨o5, h5⟩, ⟨e5, H5, F5⟩, en5⟩ := c_fit (l := l) (G := G) (fi := fi) (t := gT S1 a 0) hl H3 hW1 ho hc ho
  dsimp only at e5 H5 F5
  subst e5
  refine px (fun _ => k_Sh_find_323 (kc1 := 0) (ks1 := 0) (kc := 0) (ks := 0) (av := [.ref (8 + 3 * o9), .ref (8 + 3 * c), .int (nI (gT S1 a 0)), .ref (8 + 3 * o9)]) (st := []) (en5) rfl rfl (Nat.le_of_ble_eq_true rfl)) ?_
  refine pxb (fun _ => pm_if_eq (pc := 326) (tgt := 333) d_Sh_find_326 (by decide)) (fun c_6 => ?_) (fun c_6 => ?_)
  · have n_c_6 : ¬ ((if (gT S1 o9 1 = gT S1 c 1 ∨ gT S1 o9 1 = 1 ∨ gT S1 c 1 = 1) ∧ (gT S1 o9 2 = gT S1 c 2 ∨ gT S1 o9 2 = 1 ∨ gT S1 c 2 = 1) then g_sh (gT S1 a 0) (max (gT S1 o9 1) (gT S1 c 1)) (max (gT S1 o9 2) (gT S1 c 2)) else none).isSome = true) := g_if0.mp c_6
    refine px (fun _ => pm_iconst (v := 0) (pc := 333) d_Sh_find_333 rfl) ?_
    exact pxr (pm_iret (pc := 334) d_Sh_find_334 rfl rfl) ⟨by rw [if_neg n_c_6], H5, (F3).tr (F5)⟩
  · have n_c_6 : (if (gT S1 o9 1 = gT S1 c 1 ∨ gT S1 o9 1 = 1 ∨ gT S1 c 1 = 1) ∧ (gT S1 o9 2 = gT S1 c 2 ∨ gT S1 o9 2 = 1 ∨ gT S1 c 2 = 1) then g_sh (gT S1 a 0) (max (gT S1 o9 1) (gT S1 c 1)) (max (gT S1 o9 2) (gT S1 c 2)) else none).isSome = true := Decidable.byContradiction fun q => c_6 (g_if0.mpr q)
    refine px (fun _ => pm_iconst (v := 1) (pc := 329) d_Sh_find_329 rfl) ?_
    refine px (fun _ => pm_goto (tgt := 334) (pc := 330) d_Sh_find_330 (by decide)) ?_
    exact pxr (pm_iret (pc := 334) d_Sh_find_334 rfl rfl) ⟨by rw [if_pos n_c_6], H5, (F3).tr (F5)⟩
