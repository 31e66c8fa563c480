/-! ===== the class: cells read and written by Work; its leaves ===== -/
abbrev fGt (x y : UInt64) : Prop := ¬ (Op.cmpValue (FP.dcmp x y) .l : Int32) ≤ 0
abbrev fLt (x y : UInt64) : Prop := ¬ (0 : Int32) ≤ Op.cmpValue (FP.dcmp x y) .g
abbrev fEq (x y : UInt64) : Prop := (Op.cmpValue (FP.dcmp x y) .l : Int32) = 0
abbrev gB (x : UInt64) : Prop := x.toNat % 2 ^ 63 < 1056 * 2 ^ 52
def g_ag (S : gS) (a i j : Nat) : UInt64 := gC S a ((if gT S a 1 = 1 then 0 else i) * 4 + (if gT S a 2 = 1 then 0 else j))
theorem gC_n {S : gS} {o9 a : Nat} (f : Nat → UInt64) (h : a ≠ o9) : gC (gsC S o9 f) a = gC S a := by simp [gsC, gC, va_up, h]
theorem gC_s {S : gS} {o9 : Nat} (f : Nat → UInt64) : gC (gsC S o9 f) o9 = f := by simp [gsC, gC, va_up]
theorem g_n64' {x : UInt64} (h : x.toNat % 2 ^ 63 ≤ 9218868437227405312) : vf_n64 x := by
  unfold vf_n64
  rw [UInt64.le_iff_toNat_le, UInt64.toNat_and]
  have e : (0x7fffffffffffffff : UInt64).toNat = 2 ^ 63 - 1 := by decide
  rw [e, Nat.and_two_pow_sub_one_eq_mod]
  exact h
theorem g_n64 {x : UInt64} (h : x.toNat % 2 ^ 63 < 2000 * 2 ^ 52) : vf_n64 x := g_n64' (by omega)
theorem g_n64n {x : UInt64} (h : FP.Core.val64 x ≠ .nan) : vf_n64 x := g_n64' ((FP.Core.ne_nan x).mp h)
set_option maxHeartbeats 4000000 in
set_option maxRecDepth 20000 in
theorem c_again {l : Launch} {G : pm_G} {fi : Bool} {h : pm_H} {S : gS} {a i j : Nat} (hl : l.stackTraces = false) (H : gH S h) (hW : gW S) (ha : a < 20) (hi : i < 4) (hj : j < 4) : pm_En l G fi fi 0 0 M_Tb_atAgain [.ref (8 + 3 * a), .int (nI i), .int (nI j)] h (.inl (some (.double (g_ag S a i j))), h) := by
  refine pm_Cn.eq (pm_Cn.of hl (by decide) (Nat.le_of_ble_eq_true rfl) ?_)
  have ba := hW.2.2.2.2.1 a ha
  refine px (fun _ => pm_aload_n (pc := 0) d_Tb_atAgain_0 rfl) ?_
  refine px (fun _ => pm_getf fl_Tb_9 (pc := 1) d_Tb_atAgain_1 (H.2.2.2.2.2.2.1 a ha).2.1 rfl) ?_
  refine px (fun _ => pm_aload_n (pc := 4) d_Tb_atAgain_4 rfl) ?_
  refine px (fun _ => pm_getf fl_Tb_19 (pc := 5) d_Tb_atAgain_5 (H.2.2.2.2.2.2.1 a ha).2.1 rfl) ?_
  refine px (fun _ => pm_iconst (v := 1) (pc := 8) d_Tb_atAgain_8 rfl) ?_
  refine pxn (fun _ => pm_icmp_ne (pc := 9) (tgt := 16) d_Tb_atAgain_9 (by decide)) (fun c_1 => ?_) (fun c_1 => ?_)
  · have n_c_1 : ¬ ((gT S a 1) = 1) := fun q => c_1 ((nI_eq (a := (gT S a 1)) (b := 1) (by omega) (by omega)).mpr q)
    refine px (fun _ => pm_iload_n (pc := 16) d_Tb_atAgain_16 rfl) ?_
    refine px (fun _ => pm_iconst (v := 4) (pc := 17) d_Tb_atAgain_17 rfl) ?_
    refine px (fun _ => pm_imulN (a := i) (b := 4) (pc := 18) d_Tb_atAgain_18) ?_
    refine px (fun _ => pm_aload_n (pc := 19) d_Tb_atAgain_19 rfl) ?_
    refine px (fun _ => pm_getf fl_Tb_22 (pc := 20) d_Tb_atAgain_20 (H.2.2.2.2.2.2.1 a ha).2.1 rfl) ?_
    refine px (fun _ => pm_iconst (v := 1) (pc := 23) d_Tb_atAgain_23 rfl) ?_
    refine pxn (fun _ => pm_icmp_ne (pc := 24) (tgt := 31) d_Tb_atAgain_24 (by decide)) (fun c_2 => ?_) (fun c_2 => ?_)
    · have n_c_2 : ¬ ((gT S a 2) = 1) := fun q => c_2 ((nI_eq (a := (gT S a 2)) (b := 1) (by omega) (by omega)).mpr q)
      refine px (fun _ => pm_iload_n (pc := 31) d_Tb_atAgain_31 rfl) ?_
      refine px (fun _ => pm_iaddN (a := (i * 4)) (b := j) (pc := 32) d_Tb_atAgain_32) ?_
      refine px (fun _ => pm_dald (j := (i * 4) + j) (pc := 33) d_Tb_atAgain_33 (H.2.2.2.2.2.2.1 a ha).2.2 (rfl) (by omega) (by decide)) ?_
      exact pxr (pm_dret (pc := 34) d_Tb_atAgain_34 rfl) (by simp only [g_ag]; rw [if_neg (by assumption), if_neg (by assumption)])
    · have n_c_2 : (gT S a 2) = 1 := (nI_eq (a := (gT S a 2)) (b := 1) (by omega) (by omega)).mp c_2
      refine px (fun _ => pm_iconst (v := 0) (pc := 27) d_Tb_atAgain_27 rfl) ?_
      refine px (fun _ => pm_goto (tgt := 32) (pc := 28) d_Tb_atAgain_28 (by decide)) ?_
      refine px (fun _ => pm_iaddN (a := (i * 4)) (b := 0) (pc := 32) d_Tb_atAgain_32) ?_
      refine px (fun _ => pm_dald (j := (i * 4) + 0) (pc := 33) d_Tb_atAgain_33 (H.2.2.2.2.2.2.1 a ha).2.2 (rfl) (by omega) (by decide)) ?_
      exact pxr (pm_dret (pc := 34) d_Tb_atAgain_34 rfl) (by simp only [g_ag]; rw [if_neg (by assumption), if_pos (by assumption)])
  · have n_c_1 : (gT S a 1) = 1 := (nI_eq (a := (gT S a 1)) (b := 1) (by omega) (by omega)).mp c_1
    refine px (fun _ => pm_iconst (v := 0) (pc := 12) d_Tb_atAgain_12 rfl) ?_
    refine px (fun _ => pm_goto (tgt := 17) (pc := 13) d_Tb_atAgain_13 (by decide)) ?_
    refine px (fun _ => pm_iconst (v := 4) (pc := 17) d_Tb_atAgain_17 rfl) ?_
    refine px (fun _ => pm_imulN (a := 0) (b := 4) (pc := 18) d_Tb_atAgain_18) ?_
    refine px (fun _ => pm_aload_n (pc := 19) d_Tb_atAgain_19 rfl) ?_
    refine px (fun _ => pm_getf fl_Tb_22 (pc := 20) d_Tb_atAgain_20 (H.2.2.2.2.2.2.1 a ha).2.1 rfl) ?_
    refine px (fun _ => pm_iconst (v := 1) (pc := 23) d_Tb_atAgain_23 rfl) ?_
    refine pxn (fun _ => pm_icmp_ne (pc := 24) (tgt := 31) d_Tb_atAgain_24 (by decide)) (fun c_3 => ?_) (fun c_3 => ?_)
    · have n_c_3 : ¬ ((gT S a 2) = 1) := fun q => c_3 ((nI_eq (a := (gT S a 2)) (b := 1) (by omega) (by omega)).mpr q)
      refine px (fun _ => pm_iload_n (pc := 31) d_Tb_atAgain_31 rfl) ?_
      refine px (fun _ => pm_iaddN (a := (0 * 4)) (b := j) (pc := 32) d_Tb_atAgain_32) ?_
      refine px (fun _ => pm_dald (j := (0 * 4) + j) (pc := 33) d_Tb_atAgain_33 (H.2.2.2.2.2.2.1 a ha).2.2 (rfl) (by omega) (by decide)) ?_
      exact pxr (pm_dret (pc := 34) d_Tb_atAgain_34 rfl) (by simp only [g_ag]; rw [if_pos (by assumption), if_neg (by assumption)])
    · have n_c_3 : (gT S a 2) = 1 := (nI_eq (a := (gT S a 2)) (b := 1) (by omega) (by omega)).mp c_3
      refine px (fun _ => pm_iconst (v := 0) (pc := 27) d_Tb_atAgain_27 rfl) ?_
      refine px (fun _ => pm_goto (tgt := 32) (pc := 28) d_Tb_atAgain_28 (by decide)) ?_
      refine px (fun _ => pm_iaddN (a := (0 * 4)) (b := 0) (pc := 32) d_Tb_atAgain_32) ?_
      refine px (fun _ => pm_dald (j := (0 * 4) + 0) (pc := 33) d_Tb_atAgain_33 (H.2.2.2.2.2.2.1 a ha).2.2 (rfl) (by omega) (by decide)) ?_
      exact pxr (pm_dret (pc := 34) d_Tb_atAgain_34 rfl) (by simp only [g_ag]; rw [if_pos (by assumption), if_pos (by assumption)])
section CF
variable {l : Launch} {G : pm_G} {fi : Bool} {h : pm_H} {S : gS} {o9 a i j : Nat} {f : Nat → UInt64}
theorem c_ag (hl : l.stackTraces = false) (H : gH (gsC S o9 f) h) (hW : gW S) (ha : a < 20) (hne : a ≠ o9) (hi : i < 4) (hj : j < 4) : pm_En l G fi fi 0 0 M_Tb_atAgain [.ref (8 + 3 * a), .int (nI i), .int (nI j)] h (.inl (some (.double (g_ag S a i j))), h) := by
  have k := c_again (l := l) (G := G) (fi := fi) hl H hW.C ha hi hj
  have e : g_ag (gsC S o9 f) a i j = g_ag S a i j := by simp only [g_ag]; rw [gC_n f hne]; rfl
  rw [e] at k
  exact k
theorem c_atf (hl : l.stackTraces = false) (H : gH (gsC S o9 f) h) (ha : a < 20) (hne : a ≠ o9) (hi : i < 4) (hj : j < 4) : pm_En l G fi fi 0 0 M_Tb_at [.ref (8 + 3 * a), .int (nI i), .int (nI j)] h (.inl (some (.double (gC S a (i * 4 + j)))), h) := by
  have q := H.2.2.2.2.2.2.1 a ha
  have k := c_Tb_at (l := l) (G := G) (fi := fi) hl q.2.1 q.2.2 hi hj
  rw [gC_n f hne] at k
  exact k
theorem c_ato (hl : l.stackTraces = false) (H : gH (gsC S o9 f) h) (ho : o9 < 20) (hi : i < 4) (hj : j < 4) : pm_En l G fi fi 0 0 M_Tb_at [.ref (8 + 3 * o9), .int (nI i), .int (nI j)] h (.inl (some (.double (f (i * 4 + j)))), h) := by
  have q := H.2.2.2.2.2.2.1 o9 ho
  have k := c_Tb_at (l := l) (G := G) (fi := fi) hl q.2.1 q.2.2 hi hj
  rw [gC_s] at k
  exact k
theorem c_putf {v : UInt64} (hl : l.stackTraces = false) (H : gH (gsC S o9 f) h) (hW : gW S) (ho : o9 < 20) (hi : i < 4) (hj : j < 4) : pm_Cn l G fi fi 0 0 M_Tb_put [.ref (8 + 3 * o9), .int (nI i), .int (nI j), .double (v)] h (fun x9 => x9.1 = .inl none ∧ gH (gsC S o9 (va_up f (i * 4 + j) v)) x9.2 ∧ gFr h x9.2) := by
  have k := c_put (l := l) (G := G) (fi := fi) (v := v) hl H hW.C ho hi hj
  rw [gC_s, gsC_C] at k
  exact k
end CF
def g_pi (k : Nat) (x y : Int32) : Int32 := match k with
  | 0 => x + y
  | 1 => x - y
  | 2 => x * y
  | _ => if x < y then 1 else 0
def g_pf (k : Nat) (x y : UInt64) : UInt64 := match k with
  | 0 => FP.dadd x y
  | 1 => FP.dsub x y
  | 2 => FP.dmul x y
  | _ => if fLt x y then FP.dconst1 else FP.dconst0
def g_dv (x y : Int32) : Int32 := if y = 0 then 0 else x / y
set_option maxHeartbeats 4000000 in
set_option maxRecDepth 20000 in
theorem c_pi0 {l : Launch} {G : pm_G} {fi : Bool} {h : pm_H} {x y : Int32} (hl : l.stackTraces = false)  : pm_En l G fi fi 0 0 M_Wk_pairInts [.int (0), .int (x), .int (y)] h (.inl (some (.int (g_pi 0 x y))), h) := by
  refine pm_Cn.eq (pm_Cn.of hl (by decide) (Nat.le_of_ble_eq_true rfl) ?_)
  refine px (fun _ => pm_iload_n (pc := 0) d_Wk_pairInts_0 rfl) ?_
  refine px (fun _ => pm_tabIn (off := 27) (tgt := 28) (pc := 1) d_Wk_pairInts_1 (by decide) (by decide) rfl (by decide)) ?_
  refine px (fun _ => pm_iload_n (pc := 28) d_Wk_pairInts_28 rfl) ?_
  refine px (fun _ => pm_iload_n (pc := 29) d_Wk_pairInts_29 rfl) ?_
  refine px (fun _ => pm_iadd (pc := 30) d_Wk_pairInts_30) ?_
  exact pxr (pm_iret (pc := 31) d_Wk_pairInts_31 rfl rfl) (rfl)
set_option maxHeartbeats 4000000 in
set_option maxRecDepth 20000 in
theorem c_pf0 {l : Launch} {G : pm_G} {fi : Bool} {h : pm_H} {x y : UInt64} (hl : l.stackTraces = false) (hne : vf_n64 (FP.dadd x y)) : pm_En l G fi fi 0 0 M_Wk_pairFloats [.int (0), .double (x), .double (y)] h (.inl (some (.double (g_pf 0 x y))), h) := by
  refine pm_Cn.eq (pm_Cn.of hl (by decide) (Nat.le_of_ble_eq_true rfl) ?_)
  refine px (fun _ => pm_iload_n (pc := 0) d_Wk_pairFloats_0 rfl) ?_
  refine px (fun _ => pm_tabIn (off := 27) (tgt := 28) (pc := 1) d_Wk_pairFloats_1 (by decide) (by decide) rfl (by decide)) ?_
  refine px (fun _ => pm_dload_n (pc := 28) d_Wk_pairFloats_28 rfl) ?_
  refine px (fun _ => pm_dload_n (pc := 29) d_Wk_pairFloats_29 rfl) ?_
  refine px (fun _ => pm_dadd (pc := 30) d_Wk_pairFloats_30 (hne)) ?_
  exact pxr (pm_dret (pc := 31) d_Wk_pairFloats_31 rfl) (rfl)
set_option maxHeartbeats 4000000 in
set_option maxRecDepth 20000 in
theorem c_pi1 {l : Launch} {G : pm_G} {fi : Bool} {h : pm_H} {x y : Int32} (hl : l.stackTraces = false)  : pm_En l G fi fi 0 0 M_Wk_pairInts [.int (1), .int (x), .int (y)] h (.inl (some (.int (g_pi 1 x y))), h) := by
  refine pm_Cn.eq (pm_Cn.of hl (by decide) (Nat.le_of_ble_eq_true rfl) ?_)
  refine px (fun _ => pm_iload_n (pc := 0) d_Wk_pairInts_0 rfl) ?_
  refine px (fun _ => pm_tabIn (off := 31) (tgt := 32) (pc := 1) d_Wk_pairInts_1 (by decide) (by decide) rfl (by decide)) ?_
  refine px (fun _ => pm_iload_n (pc := 32) d_Wk_pairInts_32 rfl) ?_
  refine px (fun _ => pm_iload_n (pc := 33) d_Wk_pairInts_33 rfl) ?_
  refine px (fun _ => pm_isub (pc := 34) d_Wk_pairInts_34) ?_
  exact pxr (pm_iret (pc := 35) d_Wk_pairInts_35 rfl rfl) (rfl)
set_option maxHeartbeats 4000000 in
set_option maxRecDepth 20000 in
theorem c_pf1 {l : Launch} {G : pm_G} {fi : Bool} {h : pm_H} {x y : UInt64} (hl : l.stackTraces = false) (hne : vf_n64 (FP.dsub x y)) : pm_En l G fi fi 0 0 M_Wk_pairFloats [.int (1), .double (x), .double (y)] h (.inl (some (.double (g_pf 1 x y))), h) := by
  refine pm_Cn.eq (pm_Cn.of hl (by decide) (Nat.le_of_ble_eq_true rfl) ?_)
  refine px (fun _ => pm_iload_n (pc := 0) d_Wk_pairFloats_0 rfl) ?_
  refine px (fun _ => pm_tabIn (off := 31) (tgt := 32) (pc := 1) d_Wk_pairFloats_1 (by decide) (by decide) rfl (by decide)) ?_
  refine px (fun _ => pm_dload_n (pc := 32) d_Wk_pairFloats_32 rfl) ?_
  refine px (fun _ => pm_dload_n (pc := 33) d_Wk_pairFloats_33 rfl) ?_
  refine px (fun _ => pm_dsub (pc := 34) d_Wk_pairFloats_34 (hne)) ?_
  exact pxr (pm_dret (pc := 35) d_Wk_pairFloats_35 rfl) (rfl)
set_option maxHeartbeats 4000000 in
set_option maxRecDepth 20000 in
theorem c_pi2 {l : Launch} {G : pm_G} {fi : Bool} {h : pm_H} {x y : Int32} (hl : l.stackTraces = false)  : pm_En l G fi fi 0 0 M_Wk_pairInts [.int (2), .int (x), .int (y)] h (.inl (some (.int (g_pi 2 x y))), h) := by
  refine pm_Cn.eq (pm_Cn.of hl (by decide) (Nat.le_of_ble_eq_true rfl) ?_)
  refine px (fun _ => pm_iload_n (pc := 0) d_Wk_pairInts_0 rfl) ?_
  refine px (fun _ => pm_tabIn (off := 35) (tgt := 36) (pc := 1) d_Wk_pairInts_1 (by decide) (by decide) rfl (by decide)) ?_
  refine px (fun _ => pm_iload_n (pc := 36) d_Wk_pairInts_36 rfl) ?_
  refine px (fun _ => pm_iload_n (pc := 37) d_Wk_pairInts_37 rfl) ?_
  refine px (fun _ => pm_imul (pc := 38) d_Wk_pairInts_38) ?_
  exact pxr (pm_iret (pc := 39) d_Wk_pairInts_39 rfl rfl) (rfl)
set_option maxHeartbeats 4000000 in
set_option maxRecDepth 20000 in
theorem c_pf2 {l : Launch} {G : pm_G} {fi : Bool} {h : pm_H} {x y : UInt64} (hl : l.stackTraces = false) (hne : vf_n64 (FP.dmul x y)) : pm_En l G fi fi 0 0 M_Wk_pairFloats [.int (2), .double (x), .double (y)] h (.inl (some (.double (g_pf 2 x y))), h) := by
  refine pm_Cn.eq (pm_Cn.of hl (by decide) (Nat.le_of_ble_eq_true rfl) ?_)
  refine px (fun _ => pm_iload_n (pc := 0) d_Wk_pairFloats_0 rfl) ?_
  refine px (fun _ => pm_tabIn (off := 35) (tgt := 36) (pc := 1) d_Wk_pairFloats_1 (by decide) (by decide) rfl (by decide)) ?_
  refine px (fun _ => pm_dload_n (pc := 36) d_Wk_pairFloats_36 rfl) ?_
  refine px (fun _ => pm_dload_n (pc := 37) d_Wk_pairFloats_37 rfl) ?_
  refine px (fun _ => pm_dmul (pc := 38) d_Wk_pairFloats_38 (hne)) ?_
  exact pxr (pm_dret (pc := 39) d_Wk_pairFloats_39 rfl) (rfl)
set_option maxHeartbeats 4000000 in
set_option maxRecDepth 20000 in
theorem c_pi8 {l : Launch} {G : pm_G} {fi : Bool} {h : pm_H} {x y : Int32} (hl : l.stackTraces = false)  : pm_En l G fi fi 0 0 M_Wk_pairInts [.int (8), .int (x), .int (y)] h (.inl (some (.int (g_pi 8 x y))), h) := by
  refine pm_Cn.eq (pm_Cn.of hl (by decide) (Nat.le_of_ble_eq_true rfl) ?_)
  refine px (fun _ => pm_iload_n (pc := 0) d_Wk_pairInts_0 rfl) ?_
  refine px (fun _ => pm_tabOut (tgt := 40) (pc := 1) d_Wk_pairInts_1 (Or.inr (by decide)) (by decide)) ?_
  refine px (fun _ => pm_iload_n (pc := 40) d_Wk_pairInts_40 rfl) ?_
  refine px (fun _ => pm_iload_n (pc := 41) d_Wk_pairInts_41 rfl) ?_
  refine pxb (fun _ => pm_icmp_ge (pc := 42) (tgt := 49) d_Wk_pairInts_42 (by decide)) (fun c_1 => ?_) (fun c_1 => ?_)
  · refine px (fun _ => pm_iconst (v := 0) (pc := 49) d_Wk_pairInts_49 rfl) ?_
    exact pxr (pm_iret (pc := 50) d_Wk_pairInts_50 rfl rfl) (by simp only [g_pi]; rw [if_neg (Int32.not_lt.mpr (by assumption))])
  · refine px (fun _ => pm_iconst (v := 1) (pc := 45) d_Wk_pairInts_45 rfl) ?_
    refine px (fun _ => pm_goto (tgt := 50) (pc := 46) d_Wk_pairInts_46 (by decide)) ?_
    exact pxr (pm_iret (pc := 50) d_Wk_pairInts_50 rfl rfl) (by simp only [g_pi]; rw [if_pos (Int32.not_le.mp (by assumption))])
set_option maxHeartbeats 4000000 in
set_option maxRecDepth 20000 in
theorem c_pf8 {l : Launch} {G : pm_G} {fi : Bool} {h : pm_H} {x y : UInt64} (hl : l.stackTraces = false)  : pm_En l G fi fi 0 0 M_Wk_pairFloats [.int (8), .double (x), .double (y)] h (.inl (some (.double (g_pf 8 x y))), h) := by
  refine pm_Cn.eq (pm_Cn.of hl (by decide) (Nat.le_of_ble_eq_true rfl) ?_)
  refine px (fun _ => pm_iload_n (pc := 0) d_Wk_pairFloats_0 rfl) ?_
  refine px (fun _ => pm_tabOut (tgt := 40) (pc := 1) d_Wk_pairFloats_1 (Or.inr (by decide)) (by decide)) ?_
  refine px (fun _ => pm_dload_n (pc := 40) d_Wk_pairFloats_40 rfl) ?_
  refine px (fun _ => pm_dload_n (pc := 41) d_Wk_pairFloats_41 rfl) ?_
  refine px (fun _ => pm_dcmp (pc := 42) d_Wk_pairFloats_42) ?_
  refine pxb (fun _ => pm_if_ge (pc := 43) (tgt := 50) d_Wk_pairFloats_43 (by decide)) (fun c_1 => ?_) (fun c_1 => ?_)
  · refine px (fun _ => pm_dconst0 (pc := 50) d_Wk_pairFloats_50) ?_
    exact pxr (pm_dret (pc := 51) d_Wk_pairFloats_51 rfl) (by simp only [g_pf]; rw [if_neg (fun q => q (by assumption))])
  · refine px (fun _ => pm_dconst1 (pc := 46) d_Wk_pairFloats_46) ?_
    refine px (fun _ => pm_goto (tgt := 51) (pc := 47) d_Wk_pairFloats_47 (by decide)) ?_
    exact pxr (pm_dret (pc := 51) d_Wk_pairFloats_51 rfl) (by simp only [g_pf]; rw [if_pos (by assumption)])
set_option maxHeartbeats 4000000 in
set_option maxRecDepth 20000 in
theorem c_dv {l : Launch} {G : pm_G} {fi : Bool} {h : pm_H} {x y : Int32} (hl : l.stackTraces = false)  : pm_En l G fi fi 0 0 M_Wk_divideInts [.int (x), .int (y)] h (.inl (some (.int (g_dv x y))), h) := by
  refine pm_Cn.eq (pm_Cn.of hl (by decide) (Nat.le_of_ble_eq_true rfl) ?_)
  refine px (fun _ => pm_iload_n (pc := 0) d_Wk_divideInts_0 rfl) ?_
  refine pxn (fun _ => pm_if_ne (pc := 1) (tgt := 8) d_Wk_divideInts_1 (by decide)) (fun c_1 => ?_) (fun c_1 => ?_)
  · refine px (fun _ => pm_iload_n (pc := 8) d_Wk_divideInts_8 rfl) ?_
    refine px (fun _ => pm_iload_n (pc := 9) d_Wk_divideInts_9 rfl) ?_
    refine px (fun _ => pm_idiv (pc := 10) d_Wk_divideInts_10 (by assumption)) ?_
    exact pxr (pm_iret (pc := 11) d_Wk_divideInts_11 rfl rfl) (by simp only [g_dv]; rw [if_neg (by assumption)])
  · refine px (fun _ => pm_iconst (v := 0) (pc := 4) d_Wk_divideInts_4 rfl) ?_
    refine px (fun _ => pm_goto (tgt := 11) (pc := 5) d_Wk_divideInts_5 (by decide)) ?_
    exact pxr (pm_iret (pc := 11) d_Wk_divideInts_11 rfl rfl) (by simp only [g_dv]; rw [if_pos (by assumption)])
