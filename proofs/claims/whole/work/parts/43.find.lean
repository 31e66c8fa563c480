/-! ===== the class: Shapes.find ===== -/
theorem g_subneg : ∀ a, a < 16 → ∀ b, b < 16 → a < b → nI a - nI b < 0 := by decide +kernel
theorem g_div16 : ∀ a, a < 16 → ∀ b, b < 3 → 0 < b → nI a / nI b = nI (a / b) := by decide +kernel
theorem g_nz3 : ∀ b, b < 3 → 0 < b → ¬ nI b = 0 := by decide +kernel
set_option maxHeartbeats 4000000 in
set_option maxRecDepth 20000 in
theorem c_ga0 {l : Launch} {G : pm_G} {fi : Bool} {h : pm_H} {S : gS} {a o9 : Nat} (hl : l.stackTraces = false) (H : gH S h) (hW : gW S) (ha : a < 20) (ho : o9 < 20) : pm_Cn l G fi fi 0 0 M_Sh_findGathered [.int (0), .ref (8 + 3 * a), .ref (8 + 3 * o9)] h (g_PS S o9 h (g_sh (gT S a 0) 1 (gT S a 2))) := by
  refine pm_Cn.of hl (by decide) (Nat.le_of_ble_eq_true rfl) ?_
  have ba := hW.2.2.2.2.1 a ha
  refine px (fun _ => pm_iload_n (pc := 0) d_Sh_findGathered_0 rfl) ?_
  refine pxn (fun _ => pm_if_ne (pc := 1) (tgt := 18) d_Sh_findGathered_1 (by decide)) (fun c_1 => absurd (by decide) c_1) (fun c_1 => ?_)
  refine px (fun _ => pm_aload_n (pc := 4) d_Sh_findGathered_4 rfl) ?_
  refine px (fun _ => pm_aload_n (pc := 5) d_Sh_findGathered_5 rfl) ?_
  refine px (fun _ => pm_getf fl_Sh_15 (pc := 6) d_Sh_findGathered_6 (H.2.2.2.2.2.2.1 a ha).2.1 rfl) ?_
  refine px (fun _ => pm_iconst (v := 1) (pc := 9) d_Sh_findGathered_9 rfl) ?_
  refine px (fun _ => pm_aload_n (pc := 10) d_Sh_findGathered_10 rfl) ?_
  refine px (fun _ => pm_getf fl_Sh_30 (pc := 11) d_Sh_findGathered_11 (H.2.2.2.2.2.2.1 a ha).2.1 rfl) ?_
  obtain ⟨⟨o2, h2⟩, ⟨e2, H2, F2⟩, en2⟩ := c_shape2 (l := l) (G := G) (fi := fi) (t := gT S a 0) (r := 1) (c := gT S a 2) hl H hW ho (by omega) (by omega)
  dsimp only at e2 H2 F2
  subst e2
  refine px (fun _ => k_Sh_findGathered_14 (kc1 := 0) (ks1 := 0) (kc := 0) (ks := 0) (av := [.int (nI (gT S a 0)), .int (1), .int (nI (gT S a 2))]) (st := []) (H.2.2.2.2.2.2.1 o9 ho).2.1 (en2) rfl rfl (Nat.le_of_ble_eq_true rfl)) ?_
  exact pxr (pm_iret (pc := 17) d_Sh_findGathered_17 rfl pm_bn) ⟨by skip <;> rfl, by skip; exact H2, F2⟩
set_option maxHeartbeats 4000000 in
set_option maxRecDepth 20000 in
theorem c_ga1 {l : Launch} {G : pm_G} {fi : Bool} {h : pm_H} {S : gS} {a o9 : Nat} (hl : l.stackTraces = false) (H : gH S h) (hW : gW S) (ha : a < 20) (ho : o9 < 20) : pm_Cn l G fi fi 0 0 M_Sh_findGathered [.int (1), .ref (8 + 3 * a), .ref (8 + 3 * o9)] h (g_PS S o9 h (g_sh (gT S a 0) (gT S a 1) 1)) := by
  refine pm_Cn.of hl (by decide) (Nat.le_of_ble_eq_true rfl) ?_
  have ba := hW.2.2.2.2.1 a ha
  refine px (fun _ => pm_iload_n (pc := 0) d_Sh_findGathered_0 rfl) ?_
  refine pxn (fun _ => pm_if_ne (pc := 1) (tgt := 18) d_Sh_findGathered_1 (by decide)) (fun c_1 => ?_) (fun c_1 => absurd c_1 (by decide))
  refine px (fun _ => pm_iload_n (pc := 18) d_Sh_findGathered_18 rfl) ?_
  refine px (fun _ => pm_iconst (v := 1) (pc := 19) d_Sh_findGathered_19 rfl) ?_
  refine pxn (fun _ => pm_icmp_ne (pc := 20) (tgt := 43) d_Sh_findGathered_20 (by decide)) (fun c_2 => absurd (by decide) c_2) (fun c_2 => ?_)
  refine px (fun _ => pm_aload_n (pc := 23) d_Sh_findGathered_23 rfl) ?_
  refine px (fun _ => pm_aload_n (pc := 24) d_Sh_findGathered_24 rfl) ?_
  refine px (fun _ => pm_getf fl_Sh_15 (pc := 25) d_Sh_findGathered_25 (H.2.2.2.2.2.2.1 a ha).2.1 rfl) ?_
  refine px (fun _ => pm_aload_n (pc := 28) d_Sh_findGathered_28 rfl) ?_
  refine px (fun _ => pm_getf fl_Sh_33 (pc := 29) d_Sh_findGathered_29 (H.2.2.2.2.2.2.1 a ha).2.1 rfl) ?_
  refine px (fun _ => pm_iconst (v := 1) (pc := 32) d_Sh_findGathered_32 rfl) ?_
  obtain ⟨⟨o3, h3⟩, ⟨e3, H3, F3⟩, en3⟩ := c_shape2 (l := l) (G := G) (fi := fi) (t := gT S a 0) (r := gT S a 1) (c := 1) hl H hW ho (by omega) (by omega)
  dsimp only at e3 H3 F3
  subst e3
  refine px (fun _ => k_Sh_findGathered_33 (kc1 := 0) (ks1 := 0) (kc := 0) (ks := 0) (av := [.int (nI (gT S a 0)), .int (nI (gT S a 1)), .int (1)]) (st := []) (H.2.2.2.2.2.2.1 o9 ho).2.1 (en3) rfl rfl (Nat.le_of_ble_eq_true rfl)) ?_
  refine pxb (fun _ => pm_if_eq (pc := 36) (tgt := 43) d_Sh_findGathered_36 (by decide)) (fun c_4 => ?_) (fun c_4 => ?_)
  · have n_c_4 : ¬ ((g_sh (gT S a 0) (gT S a 1) (1)).isSome = true) := g_if0.mp c_4
    refine px (fun _ => pm_iconst (v := 0) (pc := 43) d_Sh_findGathered_43 rfl) ?_
    exact pxr (pm_iret (pc := 44) d_Sh_findGathered_44 rfl rfl) ⟨by skip; rw [if_neg n_c_4], by skip; exact H3, F3⟩
  · have n_c_4 : (g_sh (gT S a 0) (gT S a 1) (1)).isSome = true := Decidable.byContradiction fun q => c_4 (g_if0.mpr q)
    refine px (fun _ => pm_iconst (v := 1) (pc := 39) d_Sh_findGathered_39 rfl) ?_
    refine px (fun _ => pm_goto (tgt := 44) (pc := 40) d_Sh_findGathered_40 (by decide)) ?_
    exact pxr (pm_iret (pc := 44) d_Sh_findGathered_44 rfl rfl) ⟨by skip; rw [if_pos n_c_4], by skip; exact H3, F3⟩
set_option maxHeartbeats 4000000 in
set_option maxRecDepth 20000 in
theorem c_gaN {l : Launch} {G : pm_G} {fi : Bool} {h : pm_H} {S : gS} {a o9 : Nat} {p : Int32} (hl : l.stackTraces = false) (H : gH S h) (hW : gW S) (ha : a < 20) (ho : o9 < 20) (h0 : ¬ p = 0) (h1 : ¬ p = 1) : pm_Cn l G fi fi 0 0 M_Sh_findGathered [.int (p), .ref (8 + 3 * a), .ref (8 + 3 * o9)] h (g_PS S o9 h (none)) := by
  refine pm_Cn.of hl (by decide) (Nat.le_of_ble_eq_true rfl) ?_
  refine px (fun _ => pm_iload_n (pc := 0) d_Sh_findGathered_0 rfl) ?_
  refine pxn (fun _ => pm_if_ne (pc := 1) (tgt := 18) d_Sh_findGathered_1 (by decide)) (fun c_1 => ?_) (fun c_1 => absurd c_1 (h0))
  refine px (fun _ => pm_iload_n (pc := 18) d_Sh_findGathered_18 rfl) ?_
  refine px (fun _ => pm_iconst (v := 1) (pc := 19) d_Sh_findGathered_19 rfl) ?_
  refine pxn (fun _ => pm_icmp_ne (pc := 20) (tgt := 43) d_Sh_findGathered_20 (by decide)) (fun c_2 => ?_) (fun c_2 => absurd c_2 (h1))
  refine px (fun _ => pm_iconst (v := 0) (pc := 43) d_Sh_findGathered_43 rfl) ?_
  exact pxr (pm_iret (pc := 44) d_Sh_findGathered_44 rfl rfl) ⟨rfl, H, gFr.rf h⟩
theorem c_ga {l : Launch} {G : pm_G} {fi : Bool} {h : pm_H} {S : gS} {a o9 : Nat} {p : Int32} (hl : l.stackTraces = false) (H : gH S h) (hW : gW S) (ha : a < 20) (ho : o9 < 20) : pm_Cn l G fi fi 0 0 M_Sh_findGathered [.int (p), .ref (8 + 3 * a), .ref (8 + 3 * o9)] h (g_PS S o9 h (if p = 0 then g_sh (gT S a 0) 1 (gT S a 2) else if p = 1 then g_sh (gT S a 0) (gT S a 1) 1 else none)) := by
  by_cases h0 : p = 0
  · subst h0; rw [if_pos rfl]; exact c_ga0 hl H hW ha ho
  · by_cases h1 : p = 1
    · subst h1; rw [if_neg h0, if_pos rfl]; exact c_ga1 hl H hW ha ho
    · rw [if_neg h0, if_neg h1]; exact c_gaN hl H hW ha ho h0 h1
set_option maxHeartbeats 4000000 in
set_option maxRecDepth 20000 in
theorem c_jo0 {l : Launch} {G : pm_G} {fi : Bool} {h : pm_H} {S : gS} {a b o9 : Nat} (hl : l.stackTraces = false) (H : gH S h) (hW : gW S) (ha : a < 20) (hb : b < 20) (ho : o9 < 20) : pm_Cn l G fi fi 0 0 M_Sh_findJoined [.int (0), .ref (8 + 3 * a), .ref (8 + 3 * b), .ref (8 + 3 * o9)] h (g_PS S o9 h (if gT S a 2 = gT S b 2 then g_sh (gT S a 0) (gT S a 1 + gT S b 1) (gT S a 2) else none)) := by
  refine pm_Cn.of hl (by decide) (Nat.le_of_ble_eq_true rfl) ?_
  have ba := hW.2.2.2.2.1 a ha
  have bb := hW.2.2.2.2.1 b hb
  refine px (fun _ => pm_iload_n (pc := 0) d_Sh_findJoined_0 rfl) ?_
  refine pxn (fun _ => pm_if_ne (pc := 1) (tgt := 45) d_Sh_findJoined_1 (by decide)) (fun c_1 => absurd (by decide) c_1) (fun c_1 => ?_)
  refine px (fun _ => pm_aload_n (pc := 4) d_Sh_findJoined_4 rfl) ?_
  refine px (fun _ => pm_getf fl_Sh_30 (pc := 5) d_Sh_findJoined_5 (H.2.2.2.2.2.2.1 a ha).2.1 rfl) ?_
  refine px (fun _ => pm_aload_n (pc := 8) d_Sh_findJoined_8 rfl) ?_
  refine px (fun _ => pm_getf fl_Sh_30 (pc := 9) d_Sh_findJoined_9 (H.2.2.2.2.2.2.1 b hb).2.1 rfl) ?_
  refine pxn (fun _ => pm_icmp_ne (pc := 12) (tgt := 43) d_Sh_findJoined_12 (by decide)) (fun c_2 => ?_) (fun c_2 => ?_)
  · have n_c_2 : ¬ ((gT S a 2) = (gT S b 2)) := fun q => c_2 ((nI_eq (a := (gT S a 2)) (b := (gT S b 2)) (by omega) (by omega)).mpr q)
    refine px (fun _ => pm_iconst (v := 0) (pc := 43) d_Sh_findJoined_43 rfl) ?_
    have fx : ¬ (gT S a 2 = gT S b 2) := by omega
    exact pxr (pm_iret (pc := 44) d_Sh_findJoined_44 rfl rfl) ⟨by rw [if_neg fx] <;> rfl, by rw [if_neg fx]; exact H, gFr.rf h⟩
  · have n_c_2 : (gT S a 2) = (gT S b 2) := (nI_eq (a := (gT S a 2)) (b := (gT S b 2)) (by omega) (by omega)).mp c_2
    refine px (fun _ => pm_aload_n (pc := 15) d_Sh_findJoined_15 rfl) ?_
    refine px (fun _ => pm_aload_n (pc := 16) d_Sh_findJoined_16 rfl) ?_
    refine px (fun _ => pm_getf fl_Sh_15 (pc := 17) d_Sh_findJoined_17 (H.2.2.2.2.2.2.1 a ha).2.1 rfl) ?_
    refine px (fun _ => pm_aload_n (pc := 20) d_Sh_findJoined_20 rfl) ?_
    refine px (fun _ => pm_getf fl_Sh_33 (pc := 21) d_Sh_findJoined_21 (H.2.2.2.2.2.2.1 a ha).2.1 rfl) ?_
    refine px (fun _ => pm_aload_n (pc := 24) d_Sh_findJoined_24 rfl) ?_
    refine px (fun _ => pm_getf fl_Sh_33 (pc := 25) d_Sh_findJoined_25 (H.2.2.2.2.2.2.1 b hb).2.1 rfl) ?_
    refine px (fun _ => pm_iaddN (a := (gT S a 1)) (b := (gT S b 1)) (pc := 28) d_Sh_findJoined_28) ?_
    refine px (fun _ => pm_aload_n (pc := 29) d_Sh_findJoined_29 rfl) ?_
    refine px (fun _ => pm_getf fl_Sh_30 (pc := 30) d_Sh_findJoined_30 (H.2.2.2.2.2.2.1 a ha).2.1 rfl) ?_
    obtain ⟨⟨o3, h3⟩, ⟨e3, H3, F3⟩, en3⟩ := c_shape2 (l := l) (G := G) (fi := fi) (t := gT S a 0) (r := gT S a 1 + gT S b 1) (c := gT S a 2) hl H hW ho (by omega) (by omega)
    dsimp only at e3 H3 F3
    subst e3
    refine px (fun _ => k_Sh_findJoined_33 (kc1 := 0) (ks1 := 0) (kc := 0) (ks := 0) (av := [.int (nI (gT S a 0)), .int (nI ((gT S a 1) + (gT S b 1))), .int (nI (gT S a 2))]) (st := []) (H.2.2.2.2.2.2.1 o9 ho).2.1 (en3) rfl rfl (Nat.le_of_ble_eq_true rfl)) ?_
    refine pxb (fun _ => pm_if_eq (pc := 36) (tgt := 43) d_Sh_findJoined_36 (by decide)) (fun c_4 => ?_) (fun c_4 => ?_)
    · have n_c_4 : ¬ ((g_sh (gT S a 0) (gT S a 1 + gT S b 1) (gT S a 2)).isSome = true) := g_if0.mp c_4
      refine px (fun _ => pm_iconst (v := 0) (pc := 43) d_Sh_findJoined_43 rfl) ?_
      have fx : gT S a 2 = gT S b 2 := by omega
      exact pxr (pm_iret (pc := 44) d_Sh_findJoined_44 rfl rfl) ⟨by rw [if_pos fx]; rw [if_neg n_c_4], by rw [if_pos fx]; exact H3, F3⟩
    · have n_c_4 : (g_sh (gT S a 0) (gT S a 1 + gT S b 1) (gT S a 2)).isSome = true := Decidable.byContradiction fun q => c_4 (g_if0.mpr q)
      refine px (fun _ => pm_iconst (v := 1) (pc := 39) d_Sh_findJoined_39 rfl) ?_
      refine px (fun _ => pm_goto (tgt := 44) (pc := 40) d_Sh_findJoined_40 (by decide)) ?_
      have fx : gT S a 2 = gT S b 2 := by omega
      exact pxr (pm_iret (pc := 44) d_Sh_findJoined_44 rfl rfl) ⟨by rw [if_pos fx]; rw [if_pos n_c_4], by rw [if_pos fx]; exact H3, F3⟩
set_option maxHeartbeats 4000000 in
set_option maxRecDepth 20000 in
theorem c_jo1 {l : Launch} {G : pm_G} {fi : Bool} {h : pm_H} {S : gS} {a b o9 : Nat} (hl : l.stackTraces = false) (H : gH S h) (hW : gW S) (ha : a < 20) (hb : b < 20) (ho : o9 < 20) : pm_Cn l G fi fi 0 0 M_Sh_findJoined [.int (1), .ref (8 + 3 * a), .ref (8 + 3 * b), .ref (8 + 3 * o9)] h (g_PS S o9 h (if gT S a 1 = gT S b 1 then g_sh (gT S a 0) (gT S a 1) (gT S a 2 + gT S b 2) else none)) := by
  refine pm_Cn.of hl (by decide) (Nat.le_of_ble_eq_true rfl) ?_
  have ba := hW.2.2.2.2.1 a ha
  have bb := hW.2.2.2.2.1 b hb
  refine px (fun _ => pm_iload_n (pc := 0) d_Sh_findJoined_0 rfl) ?_
  refine pxn (fun _ => pm_if_ne (pc := 1) (tgt := 45) d_Sh_findJoined_1 (by decide)) (fun c_1 => ?_) (fun c_1 => absurd c_1 (by decide))
  refine px (fun _ => pm_iload_n (pc := 45) d_Sh_findJoined_45 rfl) ?_
  refine px (fun _ => pm_iconst (v := 1) (pc := 46) d_Sh_findJoined_46 rfl) ?_
  refine pxn (fun _ => pm_icmp_ne (pc := 47) (tgt := 89) d_Sh_findJoined_47 (by decide)) (fun c_2 => absurd (by decide) c_2) (fun c_2 => ?_)
  refine px (fun _ => pm_aload_n (pc := 50) d_Sh_findJoined_50 rfl) ?_
  refine px (fun _ => pm_getf fl_Sh_33 (pc := 51) d_Sh_findJoined_51 (H.2.2.2.2.2.2.1 a ha).2.1 rfl) ?_
  refine px (fun _ => pm_aload_n (pc := 54) d_Sh_findJoined_54 rfl) ?_
  refine px (fun _ => pm_getf fl_Sh_33 (pc := 55) d_Sh_findJoined_55 (H.2.2.2.2.2.2.1 b hb).2.1 rfl) ?_
  refine pxn (fun _ => pm_icmp_ne (pc := 58) (tgt := 89) d_Sh_findJoined_58 (by decide)) (fun c_3 => ?_) (fun c_3 => ?_)
  · have n_c_3 : ¬ ((gT S a 1) = (gT S b 1)) := fun q => c_3 ((nI_eq (a := (gT S a 1)) (b := (gT S b 1)) (by omega) (by omega)).mpr q)
    refine px (fun _ => pm_iconst (v := 0) (pc := 89) d_Sh_findJoined_89 rfl) ?_
    have fx : ¬ (gT S a 1 = gT S b 1) := by omega
    exact pxr (pm_iret (pc := 90) d_Sh_findJoined_90 rfl rfl) ⟨by rw [if_neg fx] <;> rfl, by rw [if_neg fx]; exact H, gFr.rf h⟩
  · have n_c_3 : (gT S a 1) = (gT S b 1) := (nI_eq (a := (gT S a 1)) (b := (gT S b 1)) (by omega) (by omega)).mp c_3
    refine px (fun _ => pm_aload_n (pc := 61) d_Sh_findJoined_61 rfl) ?_
    refine px (fun _ => pm_aload_n (pc := 62) d_Sh_findJoined_62 rfl) ?_
    refine px (fun _ => pm_getf fl_Sh_15 (pc := 63) d_Sh_findJoined_63 (H.2.2.2.2.2.2.1 a ha).2.1 rfl) ?_
    refine px (fun _ => pm_aload_n (pc := 66) d_Sh_findJoined_66 rfl) ?_
    refine px (fun _ => pm_getf fl_Sh_33 (pc := 67) d_Sh_findJoined_67 (H.2.2.2.2.2.2.1 a ha).2.1 rfl) ?_
    refine px (fun _ => pm_aload_n (pc := 70) d_Sh_findJoined_70 rfl) ?_
    refine px (fun _ => pm_getf fl_Sh_30 (pc := 71) d_Sh_findJoined_71 (H.2.2.2.2.2.2.1 a ha).2.1 rfl) ?_
    refine px (fun _ => pm_aload_n (pc := 74) d_Sh_findJoined_74 rfl) ?_
    refine px (fun _ => pm_getf fl_Sh_30 (pc := 75) d_Sh_findJoined_75 (H.2.2.2.2.2.2.1 b hb).2.1 rfl) ?_
    refine px (fun _ => pm_iaddN (a := (gT S a 2)) (b := (gT S b 2)) (pc := 78) d_Sh_findJoined_78) ?_
    obtain ⟨⟨o4, h4⟩, ⟨e4, H4, F4⟩, en4⟩ := c_shape2 (l := l) (G := G) (fi := fi) (t := gT S a 0) (r := gT S a 1) (c := gT S a 2 + gT S b 2) hl H hW ho (by omega) (by omega)
    dsimp only at e4 H4 F4
    subst e4
    refine px (fun _ => k_Sh_findJoined_79 (kc1 := 0) (ks1 := 0) (kc := 0) (ks := 0) (av := [.int (nI (gT S a 0)), .int (nI (gT S a 1)), .int (nI ((gT S a 2) + (gT S b 2)))]) (st := []) (H.2.2.2.2.2.2.1 o9 ho).2.1 (en4) rfl rfl (Nat.le_of_ble_eq_true rfl)) ?_
    refine pxb (fun _ => pm_if_eq (pc := 82) (tgt := 89) d_Sh_findJoined_82 (by decide)) (fun c_5 => ?_) (fun c_5 => ?_)
    · have n_c_5 : ¬ ((g_sh (gT S a 0) (gT S a 1) (gT S a 2 + gT S b 2)).isSome = true) := g_if0.mp c_5
      refine px (fun _ => pm_iconst (v := 0) (pc := 89) d_Sh_findJoined_89 rfl) ?_
      have fx : gT S a 1 = gT S b 1 := by omega
      exact pxr (pm_iret (pc := 90) d_Sh_findJoined_90 rfl rfl) ⟨by rw [if_pos fx]; rw [if_neg n_c_5], by rw [if_pos fx]; exact H4, F4⟩
    · have n_c_5 : (g_sh (gT S a 0) (gT S a 1) (gT S a 2 + gT S b 2)).isSome = true := Decidable.byContradiction fun q => c_5 (g_if0.mpr q)
      refine px (fun _ => pm_iconst (v := 1) (pc := 85) d_Sh_findJoined_85 rfl) ?_
      refine px (fun _ => pm_goto (tgt := 90) (pc := 86) d_Sh_findJoined_86 (by decide)) ?_
      have fx : gT S a 1 = gT S b 1 := by omega
      exact pxr (pm_iret (pc := 90) d_Sh_findJoined_90 rfl rfl) ⟨by rw [if_pos fx]; rw [if_pos n_c_5], by rw [if_pos fx]; exact H4, F4⟩
set_option maxHeartbeats 4000000 in
set_option maxRecDepth 20000 in
theorem c_joN {l : Launch} {G : pm_G} {fi : Bool} {h : pm_H} {S : gS} {a b o9 : Nat} {p : Int32} (hl : l.stackTraces = false) (H : gH S h) (hW : gW S) (ha : a < 20) (hb : b < 20) (ho : o9 < 20) (h0 : ¬ p = 0) (h1 : ¬ p = 1) : pm_Cn l G fi fi 0 0 M_Sh_findJoined [.int (p), .ref (8 + 3 * a), .ref (8 + 3 * b), .ref (8 + 3 * o9)] h (g_PS S o9 h (none)) := by
  refine pm_Cn.of hl (by decide) (Nat.le_of_ble_eq_true rfl) ?_
  refine px (fun _ => pm_iload_n (pc := 0) d_Sh_findJoined_0 rfl) ?_
  refine pxn (fun _ => pm_if_ne (pc := 1) (tgt := 45) d_Sh_findJoined_1 (by decide)) (fun c_1 => ?_) (fun c_1 => absurd c_1 (h0))
  refine px (fun _ => pm_iload_n (pc := 45) d_Sh_findJoined_45 rfl) ?_
  refine px (fun _ => pm_iconst (v := 1) (pc := 46) d_Sh_findJoined_46 rfl) ?_
  refine pxn (fun _ => pm_icmp_ne (pc := 47) (tgt := 89) d_Sh_findJoined_47 (by decide)) (fun c_2 => ?_) (fun c_2 => absurd c_2 (h1))
  refine px (fun _ => pm_iconst (v := 0) (pc := 89) d_Sh_findJoined_89 rfl) ?_
  exact pxr (pm_iret (pc := 90) d_Sh_findJoined_90 rfl rfl) ⟨rfl, H, gFr.rf h⟩
theorem c_jo {l : Launch} {G : pm_G} {fi : Bool} {h : pm_H} {S : gS} {a b o9 : Nat} {p : Int32} (hl : l.stackTraces = false) (H : gH S h) (hW : gW S) (ha : a < 20) (hb : b < 20) (ho : o9 < 20) : pm_Cn l G fi fi 0 0 M_Sh_findJoined [.int (p), .ref (8 + 3 * a), .ref (8 + 3 * b), .ref (8 + 3 * o9)] h (g_PS S o9 h (if p = 0 then if gT S a 2 = gT S b 2 then g_sh (gT S a 0) (gT S a 1 + gT S b 1) (gT S a 2) else none else if p = 1 then if gT S a 1 = gT S b 1 then g_sh (gT S a 0) (gT S a 1) (gT S a 2 + gT S b 2) else none else none)) := by
  by_cases h0 : p = 0
  · subst h0; rw [if_pos rfl]; exact c_jo0 hl H hW ha hb ho
  · by_cases h1 : p = 1
    · subst h1; rw [if_neg h0, if_pos rfl]; exact c_jo1 hl H hW ha hb ho
    · rw [if_neg h0, if_neg h1]; exact c_joN hl H hW ha hb ho h0 h1
set_option maxHeartbeats 4000000 in
set_option maxRecDepth 20000 in
theorem c_sl1 {l : Launch} {G : pm_G} {fi : Bool} {h : pm_H} {S : gS} {a b o9 n p q : Nat} (hl : l.stackTraces = false) (H : gH S h) (hW : gW S) (hn : n < 14) (ha : a < 20) (hb : b < 20) (ho : o9 < 20) (hp : gQ S n 0 = nI p) (hq : gQ S n 1 = nI q) (p1 : 1 ≤ p) (p2 : p ≤ 2) (q2 : q ≤ 2) (le : gT S b 2 ≤ gT S a 2 + 2 * q) : pm_Cn l G fi fi 0 0 M_Sh_findSlid [.ref (67 + 2 * n), .ref (8 + 3 * a), .ref (8 + 3 * b), .ref (8 + 3 * o9)] h (g_PS S o9 h (g_sh 0 (gT S a 1) ((gT S a 2 + 2 * q - gT S b 2) / p + 1))) := by
  refine pm_Cn.of hl (by decide) (Nat.le_of_ble_eq_true rfl) ?_
  have ba := hW.2.2.2.2.1 a ha
  have bb := hW.2.2.2.2.1 b hb
  have dv : (gT S a 2 + 2 * q - gT S b 2) / p ≤ gT S a 2 + 2 * q - gT S b 2 := Nat.div_le_self _ _
  have hnd : h[67 + 2 * n]? = some (pm_Ob 0 [.ref (68 + 2 * n), .int (nI (gN S n 0)), .int (nI (gN S n 1)), .int (nI (gN S n 2)), .int (nI p), .int (nI q), .int (nI (gN S n 3)), .int (nI (gN S n 4)), .int (nI (gN S n 5))]) := by
    first | rw [← hp, ← hq] | rw [← hp]
    exact (H.2.2.2.2.2.2.2 n hn).1
  refine px (fun _ => pm_aload_n (pc := 0) d_Sh_findSlid_0 rfl) ?_
  refine px (fun _ => pm_getf fl_Sh_40 (pc := 1) d_Sh_findSlid_1 hnd rfl) ?_
  refine px (fun _ => pm_iconst (v := 1) (pc := 4) d_Sh_findSlid_4 rfl) ?_
  refine pxb (fun _ => pm_icmp_lt (pc := 5) (tgt := 31) d_Sh_findSlid_5 (by decide)) (fun c_1 => absurd c_1 (fun q => absurd ((nI_ltI (a := p) (b := 1) (by omega) (by omega)).mp q) (by omega))) (fun c_1 => ?_)
  refine px (fun _ => pm_aload_n (pc := 8) d_Sh_findSlid_8 rfl) ?_
  refine px (fun _ => pm_getf fl_Sh_40 (pc := 9) d_Sh_findSlid_9 hnd rfl) ?_
  refine px (fun _ => pm_iconst (v := 2) (pc := 12) d_Sh_findSlid_12 rfl) ?_
  refine pxb (fun _ => pm_icmp_gt (pc := 13) (tgt := 31) d_Sh_findSlid_13 (by decide)) (fun c_2 => absurd c_2 (fun q => absurd ((nI_ltI (a := 2) (b := p) (by omega) (by omega)).mp q) (by omega))) (fun c_2 => ?_)
  refine px (fun _ => pm_aload_n (pc := 16) d_Sh_findSlid_16 rfl) ?_
  refine px (fun _ => pm_getf fl_Sh_55 (pc := 17) d_Sh_findSlid_17 hnd rfl) ?_
  refine pxb (fun _ => pm_if_lt (pc := 20) (tgt := 31) d_Sh_findSlid_20 (by decide)) (fun c_3 => absurd c_3 (nI_pos (by omega))) (fun c_3 => ?_)
  refine px (fun _ => pm_aload_n (pc := 23) d_Sh_findSlid_23 rfl) ?_
  refine px (fun _ => pm_getf fl_Sh_55 (pc := 24) d_Sh_findSlid_24 hnd rfl) ?_
  refine px (fun _ => pm_iconst (v := 2) (pc := 27) d_Sh_findSlid_27 rfl) ?_
  refine pxb (fun _ => pm_icmp_le (pc := 28) (tgt := 33) d_Sh_findSlid_28 (by decide)) (fun c_4 => ?_) (fun c_4 => absurd ((nI_leI (a := q) (b := 2) (by omega) (by omega)).mpr (by omega)) c_4)
  refine px (fun _ => pm_aload_n (pc := 33) d_Sh_findSlid_33 rfl) ?_
  refine px (fun _ => pm_getf fl_Sh_30 (pc := 34) d_Sh_findSlid_34 (H.2.2.2.2.2.2.1 a ha).2.1 rfl) ?_
  refine px (fun _ => pm_iconst (v := 2) (pc := 37) d_Sh_findSlid_37 rfl) ?_
  refine px (fun _ => pm_aload_n (pc := 38) d_Sh_findSlid_38 rfl) ?_
  refine px (fun _ => pm_getf fl_Sh_55 (pc := 39) d_Sh_findSlid_39 hnd rfl) ?_
  refine px (fun _ => pm_imulN (a := 2) (b := q) (pc := 42) d_Sh_findSlid_42) ?_
  refine px (fun _ => pm_iaddN (a := (gT S a 2)) (b := (2 * q)) (pc := 43) d_Sh_findSlid_43) ?_
  refine px (fun _ => pm_aload_n (pc := 44) d_Sh_findSlid_44 rfl) ?_
  refine px (fun _ => pm_getf fl_Sh_30 (pc := 45) d_Sh_findSlid_45 (H.2.2.2.2.2.2.1 b hb).2.1 rfl) ?_
  refine px (fun _ => pm_isubN (a := ((gT S a 2) + (2 * q))) (b := (gT S b 2)) (pc := 48) d_Sh_findSlid_48 (by omega)) ?_
  refine px (fun _ => pm_istore (lv' := [(4, .int (nI (((gT S a 2) + (2 * q)) - (gT S b 2)))), (0, .ref (67 + 2 * n)), (1, .ref (8 + 3 * a)), (2, .ref (8 + 3 * b)), (3, .ref (8 + 3 * o9))]) (pc := 49) d_Sh_findSlid_49 (by decide) rfl) ?_
  refine px (fun _ => pm_iload (pc := 51) d_Sh_findSlid_51 rfl) ?_
  refine pxb (fun _ => pm_if_lt (pc := 53) (tgt := 81) d_Sh_findSlid_53 (by decide)) (fun c_5 => absurd c_5 (nI_pos (by omega))) (fun c_5 => ?_)
  refine px (fun _ => pm_aload_n (pc := 56) d_Sh_findSlid_56 rfl) ?_
  refine px (fun _ => pm_iconst (v := 0) (pc := 57) d_Sh_findSlid_57 rfl) ?_
  refine px (fun _ => pm_aload_n (pc := 58) d_Sh_findSlid_58 rfl) ?_
  refine px (fun _ => pm_getf fl_Sh_33 (pc := 59) d_Sh_findSlid_59 (H.2.2.2.2.2.2.1 a ha).2.1 rfl) ?_
  refine px (fun _ => pm_iload (pc := 62) d_Sh_findSlid_62 rfl) ?_
  refine px (fun _ => pm_aload_n (pc := 64) d_Sh_findSlid_64 rfl) ?_
  refine px (fun _ => pm_getf fl_Sh_40 (pc := 65) d_Sh_findSlid_65 hnd rfl) ?_
  refine px (fun _ => pm_idiv (pc := 68) d_Sh_findSlid_68 (g_nz3 p (by omega) (by omega))) ?_
  rw [g_div16 _ (by omega) _ (by omega) (by omega)]
  refine px (fun _ => pm_iconst (v := 1) (pc := 69) d_Sh_findSlid_69 rfl) ?_
  refine px (fun _ => pm_iaddN (a := ((gT S a 2 + 2 * q - gT S b 2) / p)) (b := 1) (pc := 70) d_Sh_findSlid_70) ?_
  obtain ⟨⟨o6, h6⟩, ⟨e6, H6, F6⟩, en6⟩ := c_shape2 (l := l) (G := G) (fi := fi) (t := 0) (r := gT S a 1) (c := (gT S a 2 + 2 * q - gT S b 2) / p + 1) hl H hW ho (by omega) (by omega)
  dsimp only at e6 H6 F6
  subst e6
  refine px (fun _ => k_Sh_findSlid_71 (kc1 := 0) (ks1 := 0) (kc := 0) (ks := 0) (av := [.int (0), .int (nI (gT S a 1)), .int (nI (((gT S a 2 + 2 * q - gT S b 2) / p) + 1))]) (st := []) (H.2.2.2.2.2.2.1 o9 ho).2.1 (en6) rfl rfl (Nat.le_of_ble_eq_true rfl)) ?_
  refine pxb (fun _ => pm_if_eq (pc := 74) (tgt := 81) d_Sh_findSlid_74 (by decide)) (fun c_7 => ?_) (fun c_7 => ?_)
  · have n_c_7 : ¬ ((g_sh (0) (gT S a 1) ((gT S a 2 + 2 * q - gT S b 2) / p + 1)).isSome = true) := g_if0.mp c_7
    refine px (fun _ => pm_iconst (v := 0) (pc := 81) d_Sh_findSlid_81 rfl) ?_
    exact pxr (pm_iret (pc := 82) d_Sh_findSlid_82 rfl rfl) ⟨by skip; rw [if_neg n_c_7], by skip; exact H6, F6⟩
  · have n_c_7 : (g_sh (0) (gT S a 1) ((gT S a 2 + 2 * q - gT S b 2) / p + 1)).isSome = true := Decidable.byContradiction fun q => c_7 (g_if0.mpr q)
    refine px (fun _ => pm_iconst (v := 1) (pc := 77) d_Sh_findSlid_77 rfl) ?_
    refine px (fun _ => pm_goto (tgt := 82) (pc := 78) d_Sh_findSlid_78 (by decide)) ?_
    exact pxr (pm_iret (pc := 82) d_Sh_findSlid_82 rfl rfl) ⟨by skip; rw [if_pos n_c_7], by skip; exact H6, F6⟩
set_option maxHeartbeats 4000000 in
set_option maxRecDepth 20000 in
theorem c_sl2 {l : Launch} {G : pm_G} {fi : Bool} {h : pm_H} {S : gS} {a b o9 n p q : Nat} (hl : l.stackTraces = false) (H : gH S h) (hW : gW S) (hn : n < 14) (ha : a < 20) (hb : b < 20) (ho : o9 < 20) (hp : gQ S n 0 = nI p) (hq : gQ S n 1 = nI q) (p1 : 1 ≤ p) (p2 : p ≤ 2) (q2 : q ≤ 2) (le : ¬ gT S b 2 ≤ gT S a 2 + 2 * q) : pm_Cn l G fi fi 0 0 M_Sh_findSlid [.ref (67 + 2 * n), .ref (8 + 3 * a), .ref (8 + 3 * b), .ref (8 + 3 * o9)] h (g_PS S o9 h (none)) := by
  refine pm_Cn.of hl (by decide) (Nat.le_of_ble_eq_true rfl) ?_
  have ba := hW.2.2.2.2.1 a ha
  have bb := hW.2.2.2.2.1 b hb
  have hnd : h[67 + 2 * n]? = some (pm_Ob 0 [.ref (68 + 2 * n), .int (nI (gN S n 0)), .int (nI (gN S n 1)), .int (nI (gN S n 2)), .int (nI p), .int (nI q), .int (nI (gN S n 3)), .int (nI (gN S n 4)), .int (nI (gN S n 5))]) := by
    first | rw [← hp, ← hq] | rw [← hp]
    exact (H.2.2.2.2.2.2.2 n hn).1
  refine px (fun _ => pm_aload_n (pc := 0) d_Sh_findSlid_0 rfl) ?_
  refine px (fun _ => pm_getf fl_Sh_40 (pc := 1) d_Sh_findSlid_1 hnd rfl) ?_
  refine px (fun _ => pm_iconst (v := 1) (pc := 4) d_Sh_findSlid_4 rfl) ?_
  refine pxb (fun _ => pm_icmp_lt (pc := 5) (tgt := 31) d_Sh_findSlid_5 (by decide)) (fun c_1 => absurd c_1 (fun q => absurd ((nI_ltI (a := p) (b := 1) (by omega) (by omega)).mp q) (by omega))) (fun c_1 => ?_)
  refine px (fun _ => pm_aload_n (pc := 8) d_Sh_findSlid_8 rfl) ?_
  refine px (fun _ => pm_getf fl_Sh_40 (pc := 9) d_Sh_findSlid_9 hnd rfl) ?_
  refine px (fun _ => pm_iconst (v := 2) (pc := 12) d_Sh_findSlid_12 rfl) ?_
  refine pxb (fun _ => pm_icmp_gt (pc := 13) (tgt := 31) d_Sh_findSlid_13 (by decide)) (fun c_2 => absurd c_2 (fun q => absurd ((nI_ltI (a := 2) (b := p) (by omega) (by omega)).mp q) (by omega))) (fun c_2 => ?_)
  refine px (fun _ => pm_aload_n (pc := 16) d_Sh_findSlid_16 rfl) ?_
  refine px (fun _ => pm_getf fl_Sh_55 (pc := 17) d_Sh_findSlid_17 hnd rfl) ?_
  refine pxb (fun _ => pm_if_lt (pc := 20) (tgt := 31) d_Sh_findSlid_20 (by decide)) (fun c_3 => absurd c_3 (nI_pos (by omega))) (fun c_3 => ?_)
  refine px (fun _ => pm_aload_n (pc := 23) d_Sh_findSlid_23 rfl) ?_
  refine px (fun _ => pm_getf fl_Sh_55 (pc := 24) d_Sh_findSlid_24 hnd rfl) ?_
  refine px (fun _ => pm_iconst (v := 2) (pc := 27) d_Sh_findSlid_27 rfl) ?_
  refine pxb (fun _ => pm_icmp_le (pc := 28) (tgt := 33) d_Sh_findSlid_28 (by decide)) (fun c_4 => ?_) (fun c_4 => absurd ((nI_leI (a := q) (b := 2) (by omega) (by omega)).mpr (by omega)) c_4)
  refine px (fun _ => pm_aload_n (pc := 33) d_Sh_findSlid_33 rfl) ?_
  refine px (fun _ => pm_getf fl_Sh_30 (pc := 34) d_Sh_findSlid_34 (H.2.2.2.2.2.2.1 a ha).2.1 rfl) ?_
  refine px (fun _ => pm_iconst (v := 2) (pc := 37) d_Sh_findSlid_37 rfl) ?_
  refine px (fun _ => pm_aload_n (pc := 38) d_Sh_findSlid_38 rfl) ?_
  refine px (fun _ => pm_getf fl_Sh_55 (pc := 39) d_Sh_findSlid_39 hnd rfl) ?_
  refine px (fun _ => pm_imulN (a := 2) (b := q) (pc := 42) d_Sh_findSlid_42) ?_
  refine px (fun _ => pm_iaddN (a := (gT S a 2)) (b := (2 * q)) (pc := 43) d_Sh_findSlid_43) ?_
  refine px (fun _ => pm_aload_n (pc := 44) d_Sh_findSlid_44 rfl) ?_
  refine px (fun _ => pm_getf fl_Sh_30 (pc := 45) d_Sh_findSlid_45 (H.2.2.2.2.2.2.1 b hb).2.1 rfl) ?_
  refine px (fun _ => pm_isub (pc := 48) d_Sh_findSlid_48) ?_
  refine px (fun _ => pm_istore (lv' := [(4, .int ((nI ((gT S a 2) + (2 * q)) - nI (gT S b 2)))), (0, .ref (67 + 2 * n)), (1, .ref (8 + 3 * a)), (2, .ref (8 + 3 * b)), (3, .ref (8 + 3 * o9))]) (pc := 49) d_Sh_findSlid_49 (by decide) rfl) ?_
  refine px (fun _ => pm_iload (pc := 51) d_Sh_findSlid_51 rfl) ?_
  refine pxb (fun _ => pm_if_lt (pc := 53) (tgt := 81) d_Sh_findSlid_53 (by decide)) (fun c_5 => ?_) (fun c_5 => absurd (g_subneg _ (by omega) _ (by omega) (by omega)) c_5)
  refine px (fun _ => pm_iconst (v := 0) (pc := 81) d_Sh_findSlid_81 rfl) ?_
  exact pxr (pm_iret (pc := 82) d_Sh_findSlid_82 rfl rfl) ⟨rfl, H, gFr.rf h⟩
set_option maxHeartbeats 4000000 in
set_option maxRecDepth 20000 in
theorem c_sl3 {l : Launch} {G : pm_G} {fi : Bool} {h : pm_H} {S : gS} {a b o9 n : Nat} (hl : l.stackTraces = false) (H : gH S h) (hW : gW S) (hn : n < 14) (ha : a < 20) (hb : b < 20) (ho : o9 < 20) (hb9 : ¬ (¬ gQ S n 0 < 1 ∧ ¬ 2 < gQ S n 0 ∧ ¬ gQ S n 1 < 0 ∧ gQ S n 1 ≤ 2)) : pm_Cn l G fi fi 0 0 M_Sh_findSlid [.ref (67 + 2 * n), .ref (8 + 3 * a), .ref (8 + 3 * b), .ref (8 + 3 * o9)] h (g_PS S o9 h (none)) := by
  refine pm_Cn.of hl (by decide) (Nat.le_of_ble_eq_true rfl) ?_
  have ba := hW.2.2.2.2.1 a ha
  have bb := hW.2.2.2.2.1 b hb
  refine px (fun _ => pm_aload_n (pc := 0) d_Sh_findSlid_0 rfl) ?_
  refine px (fun _ => pm_getf fl_Sh_40 (pc := 1) d_Sh_findSlid_1 (H.2.2.2.2.2.2.2 n hn).1 rfl) ?_
  refine px (fun _ => pm_iconst (v := 1) (pc := 4) d_Sh_findSlid_4 rfl) ?_
  refine pxb (fun _ => pm_icmp_lt (pc := 5) (tgt := 31) d_Sh_findSlid_5 (by decide)) (fun c_1 => ?_) (fun c_1 => ?_)
  · refine px (fun _ => pm_iconst (v := 0) (pc := 31) d_Sh_findSlid_31 rfl) ?_
    exact pxr (pm_iret (pc := 32) d_Sh_findSlid_32 rfl rfl) ⟨rfl, H, gFr.rf h⟩
  · refine px (fun _ => pm_aload_n (pc := 8) d_Sh_findSlid_8 rfl) ?_
    refine px (fun _ => pm_getf fl_Sh_40 (pc := 9) d_Sh_findSlid_9 (H.2.2.2.2.2.2.2 n hn).1 rfl) ?_
    refine px (fun _ => pm_iconst (v := 2) (pc := 12) d_Sh_findSlid_12 rfl) ?_
    refine pxb (fun _ => pm_icmp_gt (pc := 13) (tgt := 31) d_Sh_findSlid_13 (by decide)) (fun c_2 => ?_) (fun c_2 => ?_)
    · refine px (fun _ => pm_iconst (v := 0) (pc := 31) d_Sh_findSlid_31 rfl) ?_
      exact pxr (pm_iret (pc := 32) d_Sh_findSlid_32 rfl rfl) ⟨rfl, H, gFr.rf h⟩
    · refine px (fun _ => pm_aload_n (pc := 16) d_Sh_findSlid_16 rfl) ?_
      refine px (fun _ => pm_getf fl_Sh_55 (pc := 17) d_Sh_findSlid_17 (H.2.2.2.2.2.2.2 n hn).1 rfl) ?_
      refine pxb (fun _ => pm_if_lt (pc := 20) (tgt := 31) d_Sh_findSlid_20 (by decide)) (fun c_3 => ?_) (fun c_3 => ?_)
      · refine px (fun _ => pm_iconst (v := 0) (pc := 31) d_Sh_findSlid_31 rfl) ?_
        exact pxr (pm_iret (pc := 32) d_Sh_findSlid_32 rfl rfl) ⟨rfl, H, gFr.rf h⟩
      · refine px (fun _ => pm_aload_n (pc := 23) d_Sh_findSlid_23 rfl) ?_
        refine px (fun _ => pm_getf fl_Sh_55 (pc := 24) d_Sh_findSlid_24 (H.2.2.2.2.2.2.2 n hn).1 rfl) ?_
        refine px (fun _ => pm_iconst (v := 2) (pc := 27) d_Sh_findSlid_27 rfl) ?_
        refine pxb (fun _ => pm_icmp_le (pc := 28) (tgt := 33) d_Sh_findSlid_28 (by decide)) (fun c_4 => ?_) (fun c_4 => ?_)
        · exact absurd ⟨by assumption, by assumption, by assumption, by assumption⟩ hb9
        · refine px (fun _ => pm_iconst (v := 0) (pc := 31) d_Sh_findSlid_31 rfl) ?_
          exact pxr (pm_iret (pc := 32) d_Sh_findSlid_32 rfl rfl) ⟨rfl, H, gFr.rf h⟩
