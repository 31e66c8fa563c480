/-! ===== the model: its leaves ===== -/
def m_ar (k : Nat) : Nat := if k = 9 ∨ k = 17 then 3 else if k ≤ 4 ∨ k = 8 ∨ k = 13 ∨ k = 15 ∨ k = 16 then 2 else 1
theorem m_ar_g : ∀ k, k < 19 → m_ar k = g_ar k := by decide
set_option maxHeartbeats 4000000 in
set_option maxRecDepth 20000 in
theorem m_noSlot {l : Launch} {G : pm_G} {fi : Bool} {h : pm_H} {S : mS} {s : Int32} (hl : l.stackTraces = false) (H : mH S h)  : pm_En l G fi fi 0 0 M_Mo_noSlot [.ref (95), .int (s)] h (.inl (some (.int (if s < 0 ∨ ¬ s ≤ 19 then 1 else 0))), h) := by
  refine pm_Cn.eq (pm_Cn.of hl (by decide) (Nat.le_of_ble_eq_true rfl) ?_)
  refine px (fun _ => pm_iload_n (pc := 0) d_Mo_noSlot_0 rfl) ?_
  refine pxb (fun _ => pm_if_lt (pc := 1) (tgt := 10) d_Mo_noSlot_1 (by decide)) (fun c_1 => ?_) (fun c_1 => ?_)
  · refine px (fun _ => pm_iconst (v := 1) (pc := 10) d_Mo_noSlot_10 rfl) ?_
    refine px (fun _ => pm_goto (tgt := 15) (pc := 11) d_Mo_noSlot_11 (by decide)) ?_
    exact pxr (pm_iret (pc := 15) d_Mo_noSlot_15 rfl rfl) (by rw [if_pos (by first | exact Or.inl (by assumption) | exact Or.inr (by assumption))])
  · refine px (fun _ => pm_iload_n (pc := 4) d_Mo_noSlot_4 rfl) ?_
    refine px (fun _ => pm_bipush (v := 19) (pc := 5) d_Mo_noSlot_5 rfl) ?_
    refine pxb (fun _ => pm_icmp_le (pc := 7) (tgt := 14) d_Mo_noSlot_7 (by decide)) (fun c_2 => ?_) (fun c_2 => ?_)
    · refine px (fun _ => pm_iconst (v := 0) (pc := 14) d_Mo_noSlot_14 rfl) ?_
      exact pxr (pm_iret (pc := 15) d_Mo_noSlot_15 rfl rfl) (by rw [if_neg (fun q => q.elim (fun q => absurd q (by assumption)) (fun q => q (by assumption)))])
    · refine px (fun _ => pm_iconst (v := 1) (pc := 10) d_Mo_noSlot_10 rfl) ?_
      refine px (fun _ => pm_goto (tgt := 15) (pc := 11) d_Mo_noSlot_11 (by decide)) ?_
      exact pxr (pm_iret (pc := 15) d_Mo_noSlot_15 rfl rfl) (by rw [if_pos (by first | exact Or.inl (by assumption) | exact Or.inr (by assumption))])
set_option maxHeartbeats 4000000 in
set_option maxRecDepth 20000 in
theorem m_out {l : Launch} {G : pm_G} {fi : Bool} {h : pm_H} {S : mS} {v lo hi : Int32} (hl : l.stackTraces = false) (H : mH S h)  : pm_En l G fi fi 0 0 M_Mo_out [.ref (95), .int (v), .int (lo), .int (hi)] h (.inl (some (.int (if v < lo ∨ ¬ v ≤ hi then 1 else 0))), h) := by
  refine pm_Cn.eq (pm_Cn.of hl (by decide) (Nat.le_of_ble_eq_true rfl) ?_)
  refine px (fun _ => pm_iload_n (pc := 0) d_Mo_out_0 rfl) ?_
  refine px (fun _ => pm_iload_n (pc := 1) d_Mo_out_1 rfl) ?_
  refine pxb (fun _ => pm_icmp_lt (pc := 2) (tgt := 10) d_Mo_out_2 (by decide)) (fun c_1 => ?_) (fun c_1 => ?_)
  · refine px (fun _ => pm_iconst (v := 1) (pc := 10) d_Mo_out_10 rfl) ?_
    refine px (fun _ => pm_goto (tgt := 15) (pc := 11) d_Mo_out_11 (by decide)) ?_
    exact pxr (pm_iret (pc := 15) d_Mo_out_15 rfl rfl) (by rw [if_pos (by first | exact Or.inl (by assumption) | exact Or.inr (by assumption))])
  · refine px (fun _ => pm_iload_n (pc := 5) d_Mo_out_5 rfl) ?_
    refine px (fun _ => pm_iload_n (pc := 6) d_Mo_out_6 rfl) ?_
    refine pxb (fun _ => pm_icmp_le (pc := 7) (tgt := 14) d_Mo_out_7 (by decide)) (fun c_2 => ?_) (fun c_2 => ?_)
    · refine px (fun _ => pm_iconst (v := 0) (pc := 14) d_Mo_out_14 rfl) ?_
      exact pxr (pm_iret (pc := 15) d_Mo_out_15 rfl rfl) (by rw [if_neg (fun q => q.elim (fun q => absurd q (by assumption)) (fun q => q (by assumption)))])
    · refine px (fun _ => pm_iconst (v := 1) (pc := 10) d_Mo_out_10 rfl) ?_
      refine px (fun _ => pm_goto (tgt := 15) (pc := 11) d_Mo_out_11 (by decide)) ?_
      exact pxr (pm_iret (pc := 15) d_Mo_out_15 rfl rfl) (by rw [if_pos (by first | exact Or.inl (by assumption) | exact Or.inr (by assumption))])
set_option maxHeartbeats 4000000 in
set_option maxRecDepth 20000 in
theorem m_thrown {l : Launch} {G : pm_G} {fi : Bool} {h : pm_H} {S : mS}  (hl : l.stackTraces = false) (H : mH S h)  : pm_En l G fi fi 0 0 M_Mo_thrown [.ref (95)] h (.inl (some (.int (nI (mG S 5)))), h) := by
  refine pm_Cn.eq (pm_Cn.of hl (by decide) (Nat.le_of_ble_eq_true rfl) ?_)
  refine px (fun _ => pm_aload_n (pc := 0) d_Mo_thrown_0 rfl) ?_
  refine px (fun _ => pm_getf fl_Mo_57 (pc := 1) d_Mo_thrown_1 H.1 rfl) ?_
  exact pxr (pm_iret (pc := 4) d_Mo_thrown_4 rfl rfl) rfl
set_option maxHeartbeats 4000000 in
set_option maxRecDepth 20000 in
theorem m_near {l : Launch} {G : pm_G} {fi : Bool} {h : pm_H} {S : mS} {x y : Nat} (hl : l.stackTraces = false) (H : mH S h) (hx : x < 1000) (hy : y < 1000) : pm_En l G fi fi 0 0 M_Mo_near [.ref (95), .int (nI x), .int (nI y)] h (.inl (some (.int (if (x = y ∨ x = 1 ∨ y = 1) then 1 else 0))), h) := by
  refine pm_Cn.eq (pm_Cn.of hl (by decide) (Nat.le_of_ble_eq_true rfl) ?_)
  refine px (fun _ => pm_iload_n (pc := 0) d_Mo_near_0 rfl) ?_
  refine px (fun _ => pm_iload_n (pc := 1) d_Mo_near_1 rfl) ?_
  refine pxb (fun _ => pm_icmp_eq (pc := 2) (tgt := 15) d_Mo_near_2 (by decide)) (fun c_1 => ?_) (fun c_1 => ?_)
  · have n_c_1 : x = y := (nI_eq (a := x) (b := y) (by omega) (by omega)).mp c_1
    refine px (fun _ => pm_iconst (v := 1) (pc := 15) d_Mo_near_15 rfl) ?_
    refine px (fun _ => pm_goto (tgt := 20) (pc := 16) d_Mo_near_16 (by decide)) ?_
    exact pxr (pm_iret (pc := 20) d_Mo_near_20 rfl rfl) (by rw [if_pos (by omega)])
  · have n_c_1 : ¬ (x = y) := fun q => c_1 ((nI_eq (a := x) (b := y) (by omega) (by omega)).mpr q)
    refine px (fun _ => pm_iload_n (pc := 5) d_Mo_near_5 rfl) ?_
    refine px (fun _ => pm_iconst (v := 1) (pc := 6) d_Mo_near_6 rfl) ?_
    refine pxb (fun _ => pm_icmp_eq (pc := 7) (tgt := 15) d_Mo_near_7 (by decide)) (fun c_2 => ?_) (fun c_2 => ?_)
    · have n_c_2 : x = 1 := (nI_eq (a := x) (b := 1) (by omega) (by omega)).mp c_2
      refine px (fun _ => pm_iconst (v := 1) (pc := 15) d_Mo_near_15 rfl) ?_
      refine px (fun _ => pm_goto (tgt := 20) (pc := 16) d_Mo_near_16 (by decide)) ?_
      exact pxr (pm_iret (pc := 20) d_Mo_near_20 rfl rfl) (by rw [if_pos (by omega)])
    · have n_c_2 : ¬ (x = 1) := fun q => c_2 ((nI_eq (a := x) (b := 1) (by omega) (by omega)).mpr q)
      refine px (fun _ => pm_iload_n (pc := 10) d_Mo_near_10 rfl) ?_
      refine px (fun _ => pm_iconst (v := 1) (pc := 11) d_Mo_near_11 rfl) ?_
      refine pxn (fun _ => pm_icmp_ne (pc := 12) (tgt := 19) d_Mo_near_12 (by decide)) (fun c_3 => ?_) (fun c_3 => ?_)
      · have n_c_3 : ¬ (y = 1) := fun q => c_3 ((nI_eq (a := y) (b := 1) (by omega) (by omega)).mpr q)
        refine px (fun _ => pm_iconst (v := 0) (pc := 19) d_Mo_near_19 rfl) ?_
        exact pxr (pm_iret (pc := 20) d_Mo_near_20 rfl rfl) (by rw [if_neg (by omega)])
      · have n_c_3 : y = 1 := (nI_eq (a := y) (b := 1) (by omega) (by omega)).mp c_3
        refine px (fun _ => pm_iconst (v := 1) (pc := 15) d_Mo_near_15 rfl) ?_
        refine px (fun _ => pm_goto (tgt := 20) (pc := 16) d_Mo_near_16 (by decide)) ?_
        exact pxr (pm_iret (pc := 20) d_Mo_near_20 rfl rfl) (by rw [if_pos (by omega)])
set_option maxHeartbeats 4000000 in
set_option maxRecDepth 20000 in
theorem m_most {l : Launch} {G : pm_G} {fi : Bool} {h : pm_H} {S : mS} {x y : Nat} (hl : l.stackTraces = false) (H : mH S h) (hx : x < 1000) (hy : y < 1000) : pm_En l G fi fi 0 0 M_Mo_most [.ref (95), .int (nI x), .int (nI y)] h (.inl (some (.int (nI (max x y)))), h) := by
  refine pm_Cn.eq (pm_Cn.of hl (by decide) (Nat.le_of_ble_eq_true rfl) ?_)
  refine px (fun _ => pm_iload_n (pc := 0) d_Mo_most_0 rfl) ?_
  refine px (fun _ => pm_iload_n (pc := 1) d_Mo_most_1 rfl) ?_
  refine pxb (fun _ => pm_icmp_le (pc := 2) (tgt := 9) d_Mo_most_2 (by decide)) (fun c_1 => ?_) (fun c_1 => ?_)
  · have n_c_1 : x ≤ y := (nI_leI (a := x) (b := y) (by omega) (by omega)).mp c_1
    refine px (fun _ => pm_iload_n (pc := 9) d_Mo_most_9 rfl) ?_
    exact pxr (pm_iret (pc := 10) d_Mo_most_10 rfl rfl) (by rw [show max x y = y by omega])
  · have n_c_1 : ¬ (x ≤ y) := fun q => c_1 ((nI_leI (a := x) (b := y) (by omega) (by omega)).mpr q)
    refine px (fun _ => pm_iload_n (pc := 5) d_Mo_most_5 rfl) ?_
    refine px (fun _ => pm_goto (tgt := 10) (pc := 6) d_Mo_most_6 (by decide)) ?_
    exact pxr (pm_iret (pc := 10) d_Mo_most_10 rfl rfl) (by rw [show max x y = x by omega])
set_option maxHeartbeats 4000000 in
set_option maxRecDepth 20000 in
theorem m_arity {l : Launch} {G : pm_G} {fi : Bool} {h : pm_H} {S : mS} {k : Nat} (hl : l.stackTraces = false) (H : mH S h) (hk : k < 19) : pm_En l G fi fi 0 0 M_Mo_arity [.ref (95), .int (nI k)] h (.inl (some (.int (nI (m_ar k)))), h) := by
  refine pm_Cn.eq (pm_Cn.of hl (by decide) (Nat.le_of_ble_eq_true rfl) ?_)
  refine px (fun _ => pm_iload_n (pc := 0) d_Mo_arity_0 rfl) ?_
  refine px (fun _ => pm_bipush (v := 9) (pc := 1) d_Mo_arity_1 rfl) ?_
  refine pxb (fun _ => pm_icmp_eq (pc := 3) (tgt := 12) d_Mo_arity_3 (by decide)) (fun c_1 => ?_) (fun c_1 => ?_)
  · have n_c_1 : k = 9 := (nI_eq (a := k) (b := 9) (by omega) (by omega)).mp c_1
    refine px (fun _ => pm_iconst (v := 3) (pc := 12) d_Mo_arity_12 rfl) ?_
    exact pxr (pm_iret (pc := 13) d_Mo_arity_13 rfl rfl) (by rw [show m_ar k = 3 by simp only [m_ar]; (repeat' split) <;> omega]; rfl)
  · have n_c_1 : ¬ (k = 9) := fun q => c_1 ((nI_eq (a := k) (b := 9) (by omega) (by omega)).mpr q)
    refine px (fun _ => pm_iload_n (pc := 6) d_Mo_arity_6 rfl) ?_
    refine px (fun _ => pm_bipush (v := 17) (pc := 7) d_Mo_arity_7 rfl) ?_
    refine pxn (fun _ => pm_icmp_ne (pc := 9) (tgt := 14) d_Mo_arity_9 (by decide)) (fun c_2 => ?_) (fun c_2 => ?_)
    · have n_c_2 : ¬ (k = 17) := fun q => c_2 ((nI_eq (a := k) (b := 17) (by omega) (by omega)).mpr q)
      refine px (fun _ => pm_iload_n (pc := 14) d_Mo_arity_14 rfl) ?_
      refine px (fun _ => pm_iconst (v := 4) (pc := 15) d_Mo_arity_15 rfl) ?_
      refine pxb (fun _ => pm_icmp_le (pc := 16) (tgt := 43) d_Mo_arity_16 (by decide)) (fun c_3 => ?_) (fun c_3 => ?_)
      · have n_c_3 : k ≤ 4 := (nI_leI (a := k) (b := 4) (by omega) (by omega)).mp c_3
        refine px (fun _ => pm_iconst (v := 2) (pc := 43) d_Mo_arity_43 rfl) ?_
        refine px (fun _ => pm_goto (tgt := 48) (pc := 44) d_Mo_arity_44 (by decide)) ?_
        exact pxr (pm_iret (pc := 48) d_Mo_arity_48 rfl rfl) (by rw [show m_ar k = 2 by simp only [m_ar]; (repeat' split) <;> omega]; rfl)
      · have n_c_3 : ¬ (k ≤ 4) := fun q => c_3 ((nI_leI (a := k) (b := 4) (by omega) (by omega)).mpr q)
        refine px (fun _ => pm_iload_n (pc := 19) d_Mo_arity_19 rfl) ?_
        refine px (fun _ => pm_bipush (v := 8) (pc := 20) d_Mo_arity_20 rfl) ?_
        refine pxb (fun _ => pm_icmp_eq (pc := 22) (tgt := 43) d_Mo_arity_22 (by decide)) (fun c_4 => ?_) (fun c_4 => ?_)
        · have n_c_4 : k = 8 := (nI_eq (a := k) (b := 8) (by omega) (by omega)).mp c_4
          refine px (fun _ => pm_iconst (v := 2) (pc := 43) d_Mo_arity_43 rfl) ?_
          refine px (fun _ => pm_goto (tgt := 48) (pc := 44) d_Mo_arity_44 (by decide)) ?_
          exact pxr (pm_iret (pc := 48) d_Mo_arity_48 rfl rfl) (by rw [show m_ar k = 2 by simp only [m_ar]; (repeat' split) <;> omega]; rfl)
        · have n_c_4 : ¬ (k = 8) := fun q => c_4 ((nI_eq (a := k) (b := 8) (by omega) (by omega)).mpr q)
          refine px (fun _ => pm_iload_n (pc := 25) d_Mo_arity_25 rfl) ?_
          refine px (fun _ => pm_bipush (v := 13) (pc := 26) d_Mo_arity_26 rfl) ?_
          refine pxb (fun _ => pm_icmp_eq (pc := 28) (tgt := 43) d_Mo_arity_28 (by decide)) (fun c_5 => ?_) (fun c_5 => ?_)
          · have n_c_5 : k = 13 := (nI_eq (a := k) (b := 13) (by omega) (by omega)).mp c_5
            refine px (fun _ => pm_iconst (v := 2) (pc := 43) d_Mo_arity_43 rfl) ?_
            refine px (fun _ => pm_goto (tgt := 48) (pc := 44) d_Mo_arity_44 (by decide)) ?_
            exact pxr (pm_iret (pc := 48) d_Mo_arity_48 rfl rfl) (by rw [show m_ar k = 2 by simp only [m_ar]; (repeat' split) <;> omega]; rfl)
          · have n_c_5 : ¬ (k = 13) := fun q => c_5 ((nI_eq (a := k) (b := 13) (by omega) (by omega)).mpr q)
            refine px (fun _ => pm_iload_n (pc := 31) d_Mo_arity_31 rfl) ?_
            refine px (fun _ => pm_bipush (v := 15) (pc := 32) d_Mo_arity_32 rfl) ?_
            refine pxb (fun _ => pm_icmp_eq (pc := 34) (tgt := 43) d_Mo_arity_34 (by decide)) (fun c_6 => ?_) (fun c_6 => ?_)
            · have n_c_6 : k = 15 := (nI_eq (a := k) (b := 15) (by omega) (by omega)).mp c_6
              refine px (fun _ => pm_iconst (v := 2) (pc := 43) d_Mo_arity_43 rfl) ?_
              refine px (fun _ => pm_goto (tgt := 48) (pc := 44) d_Mo_arity_44 (by decide)) ?_
              exact pxr (pm_iret (pc := 48) d_Mo_arity_48 rfl rfl) (by rw [show m_ar k = 2 by simp only [m_ar]; (repeat' split) <;> omega]; rfl)
            · have n_c_6 : ¬ (k = 15) := fun q => c_6 ((nI_eq (a := k) (b := 15) (by omega) (by omega)).mpr q)
              refine px (fun _ => pm_iload_n (pc := 37) d_Mo_arity_37 rfl) ?_
              refine px (fun _ => pm_bipush (v := 16) (pc := 38) d_Mo_arity_38 rfl) ?_
              refine pxn (fun _ => pm_icmp_ne (pc := 40) (tgt := 47) d_Mo_arity_40 (by decide)) (fun c_7 => ?_) (fun c_7 => ?_)
              · have n_c_7 : ¬ (k = 16) := fun q => c_7 ((nI_eq (a := k) (b := 16) (by omega) (by omega)).mpr q)
                refine px (fun _ => pm_iconst (v := 1) (pc := 47) d_Mo_arity_47 rfl) ?_
                exact pxr (pm_iret (pc := 48) d_Mo_arity_48 rfl rfl) (by rw [show m_ar k = 1 by simp only [m_ar]; (repeat' split) <;> omega]; rfl)
              · have n_c_7 : k = 16 := (nI_eq (a := k) (b := 16) (by omega) (by omega)).mp c_7
                refine px (fun _ => pm_iconst (v := 2) (pc := 43) d_Mo_arity_43 rfl) ?_
                refine px (fun _ => pm_goto (tgt := 48) (pc := 44) d_Mo_arity_44 (by decide)) ?_
                exact pxr (pm_iret (pc := 48) d_Mo_arity_48 rfl rfl) (by rw [show m_ar k = 2 by simp only [m_ar]; (repeat' split) <;> omega]; rfl)
    · have n_c_2 : k = 17 := (nI_eq (a := k) (b := 17) (by omega) (by omega)).mp c_2
      refine px (fun _ => pm_iconst (v := 3) (pc := 12) d_Mo_arity_12 rfl) ?_
      exact pxr (pm_iret (pc := 13) d_Mo_arity_13 rfl rfl) (by rw [show m_ar k = 3 by simp only [m_ar]; (repeat' split) <;> omega]; rfl)
