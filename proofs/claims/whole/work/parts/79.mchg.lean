/-! ===== the model: what changes it ===== -/
abbrev m_P (v : Option Value) (T : mS) (h : pm_H) : pm_O × pm_H → Prop := fun r => r.1 = .inl v ∧ mH T r.2 ∧ mFr h r.2
section MLeaf
variable {l : Launch} {G : pm_G} {fi : Bool} {h : pm_H} {T : mS}
theorem m_ns_in {j : Nat} (hl : l.stackTraces = false) (H : mH T h) (hj : j < 20) : pm_En l G fi fi 0 0 M_Mo_noSlot [.ref 95, .int (nI j)] h (.inl (some (.int 0)), h) := by
  have k := m_noSlot (l := l) (G := G) (fi := fi) (s := nI j) hl H
  rw [if_neg (fun q => q.elim (nI_pos (by omega)) (fun q => q ((nI_leI (a := j) (b := 19) (by omega) (by omega)).mpr (by omega))))] at k
  exact k
theorem m_ns_out {s : Int32} (hl : l.stackTraces = false) (H : mH T h) (hs : s < 0 ∨ 20 ≤ s) : pm_En l G fi fi 0 0 M_Mo_noSlot [.ref 95, .int s] h (.inl (some (.int 1)), h) := by
  have k := m_noSlot (l := l) (G := G) (fi := fi) (s := s) hl H
  rw [if_pos (hs.imp id (fun q r => by
    have q1 : (20 : Int32).toInt ≤ s.toInt := Int32.le_iff_toInt_le.mp q
    have r1 : s.toInt ≤ (19 : Int32).toInt := Int32.le_iff_toInt_le.mp r
    have e1 : (20 : Int32).toInt = 20 := rfl
    have e2 : (19 : Int32).toInt = 19 := rfl
    omega))] at k
  exact k
theorem m_ns_s {s : Int32} (hl : l.stackTraces = false) (H : mH T h) (hs : gSl s) : pm_En l G fi fi 0 0 M_Mo_noSlot [.ref 95, .int s] h (.inl (some (.int 0)), h) := by
  obtain ⟨j, hj, rfl⟩ := nI_of hs.1
  exact m_ns_in hl H (Decidable.byContradiction fun r => hs.2 ((nI_leI (a := 20) (b := j) (by omega) hj).mpr (by omega)))
theorem m_ns_n {s : Int32} (hl : l.stackTraces = false) (H : mH T h) (hs : ¬ gSl s) : pm_En l G fi fi 0 0 M_Mo_noSlot [.ref 95, .int s] h (.inl (some (.int 1)), h) :=
  m_ns_out hl H (Decidable.byContradiction fun q => hs ⟨fun r => q (Or.inl r), fun r => q (Or.inr r)⟩)
theorem m_out_in {v lo hi : Int32} (hl : l.stackTraces = false) (H : mH T h) (h1 : ¬ v < lo) (h2 : ¬ hi < v) : pm_En l G fi fi 0 0 M_Mo_out [.ref 95, .int v, .int lo, .int hi] h (.inl (some (.int 0)), h) := by
  have k := m_out (l := l) (G := G) (fi := fi) (v := v) (lo := lo) (hi := hi) hl H
  rw [if_neg (fun q => q.elim h1 (fun q => q (Int32.not_lt.mp h2)))] at k
  exact k
theorem m_out_out {v lo hi : Int32} (hl : l.stackTraces = false) (H : mH T h) (h1 : ¬ (¬ v < lo ∧ ¬ hi < v)) : pm_En l G fi fi 0 0 M_Mo_out [.ref 95, .int v, .int lo, .int hi] h (.inl (some (.int 1)), h) := by
  have k := m_out (l := l) (G := G) (fi := fi) (v := v) (lo := lo) (hi := hi) hl H
  rw [if_pos (Decidable.byContradiction fun q => h1 ⟨fun r => q (Or.inl r), fun r => q (Or.inr (Int32.not_le.mpr r))⟩)] at k
  exact k
end MLeaf
theorem g_nin {n lo hi : Nat} (h1 : lo ≤ n) (h2 : n ≤ hi) (h3 : hi < 1000) : ¬ nI n < nI lo ∧ ¬ nI hi < nI n := ⟨fun q => absurd ((nI_ltI (a := n) (b := lo) (by omega) (by omega)).mp q) (by omega), fun q => absurd ((nI_ltI (a := hi) (b := n) (by omega) (by omega)).mp q) (by omega)⟩
theorem msZ_14 (T : mS) : msZ T 14 = T := by
  have e : (fun a b => if a = 10 ∧ 14 ≤ b ∧ b < 14 then 0 else T.2.1 a b) = T.2.1 := by funext a b; rw [if_neg (by omega)]
  unfold msZ; rw [e]
theorem msZ_s (T : mS) {i : Nat} (h : i < 14) : msZ (msA T 10 i 0) (i + 1) = msZ T i := by
  have e : (fun a b => if a = 10 ∧ i + 1 ≤ b ∧ b < 14 then 0 else g_up2 T.2.1 10 i 0 a b) = (fun a b => if a = 10 ∧ i ≤ b ∧ b < 14 then 0 else T.2.1 a b) := by
    funext a b
    simp only [g_up2]
    by_cases q : a = 10 ∧ b = i
    · rw [if_neg (by omega), if_pos q, if_pos (by omega)]
    · rw [if_neg q]
      by_cases r : a = 10 ∧ i ≤ b ∧ b < 14
      · rw [if_pos (by omega), if_pos r]
      · rw [if_neg (by omega), if_neg r]
  show (_, (fun a b => if a = 10 ∧ i + 1 ≤ b ∧ b < 14 then 0 else g_up2 T.2.1 10 i 0 a b), _) = _
  rw [e]; rfl
theorem msK_14 (T : mS) : msK T 14 = T := by
  have e : (fun a b => if a = 10 ∧ 14 ≤ b ∧ b < 14 ∧ nI (T.2.1 10 b) = 2 then 0 else T.2.1 a b) = T.2.1 := by funext a b; rw [if_neg (by omega)]
  unfold msK; rw [e]
theorem msK_s (T : mS) {i : Nat} (h : i < 14) (h2 : nI (mA T 10 i) = 2) : msK (msA T 10 i 0) (i + 1) = msK T i := by
  have e : (fun a b => if a = 10 ∧ i + 1 ≤ b ∧ b < 14 ∧ nI (g_up2 T.2.1 10 i 0 10 b) = 2 then 0 else g_up2 T.2.1 10 i 0 a b) = (fun a b => if a = 10 ∧ i ≤ b ∧ b < 14 ∧ nI (T.2.1 10 b) = 2 then 0 else T.2.1 a b) := by
    funext a b
    by_cases q : b = i
    · subst q
      simp only [g_up2]
      by_cases q2 : a = 10
      · rw [if_neg (by omega), if_pos (by first | exact ⟨q2, rfl⟩ | exact ⟨q2, trivial⟩), if_pos ⟨q2, by omega, by omega, h2⟩]
      · rw [if_neg (fun z => q2 z.1), if_neg (fun z => q2 z.1), if_neg (fun z => q2 z.1)]
    · have e1 : g_up2 T.2.1 10 i 0 10 b = T.2.1 10 b := g_up2_n _ _ (Or.inr q)
      have e2 : g_up2 T.2.1 10 i 0 a b = T.2.1 a b := g_up2_n _ _ (Or.inr q)
      rw [e1, e2]
      by_cases r : a = 10 ∧ i ≤ b ∧ b < 14 ∧ nI (T.2.1 10 b) = 2
      · rw [if_pos ⟨r.1, by omega, r.2.2.1, r.2.2.2⟩, if_pos r]
      · rw [if_neg (fun z => r ⟨z.1, by omega, z.2.2.1, z.2.2.2⟩), if_neg r]
  show (_, (fun a b => if a = 10 ∧ i + 1 ≤ b ∧ b < 14 ∧ nI (g_up2 T.2.1 10 i 0 10 b) = 2 then 0 else g_up2 T.2.1 10 i 0 a b), _) = _
  rw [e]; rfl
theorem msK_n (T : mS) {i : Nat} (h2 : ¬ nI (mA T 10 i) = 2) : msK T (i + 1) = msK T i := by
  have e : (fun a b => if a = 10 ∧ i + 1 ≤ b ∧ b < 14 ∧ nI (T.2.1 10 b) = 2 then 0 else T.2.1 a b) = (fun a b => if a = 10 ∧ i ≤ b ∧ b < 14 ∧ nI (T.2.1 10 b) = 2 then 0 else T.2.1 a b) := by
    funext a b
    by_cases q : b = i
    · subst q
      rw [if_neg (by omega), if_neg (fun z => h2 z.2.2.2)]
    · by_cases r : a = 10 ∧ i ≤ b ∧ b < 14 ∧ nI (T.2.1 10 b) = 2
      · rw [if_pos ⟨r.1, by omega, r.2.2.1, r.2.2.2⟩, if_pos r]
      · rw [if_neg (fun z => r ⟨z.1, by omega, z.2.2.1, z.2.2.2⟩), if_neg r]
  unfold msK; rw [e]
theorem msV0_16 (T : mS) (j : Nat) : msV0 T j 16 = T := by
  have e : (fun k => if j * 16 + 16 ≤ k ∧ k < j * 16 + 16 then FP.dconst0 else T.2.2.2.1 k) = T.2.2.2.1 := by funext k; rw [if_neg (by omega)]
  unfold msV0; rw [e]
theorem msV0_s (T : mS) (j : Nat) {i : Nat} (h : i < 16) : msV0 (msV T (j * 16 + i) FP.dconst0) j (i + 1) = msV0 T j i := by
  have e : (fun k => if j * 16 + (i + 1) ≤ k ∧ k < j * 16 + 16 then FP.dconst0 else va_up T.2.2.2.1 (j * 16 + i) FP.dconst0 k) = (fun k => if j * 16 + i ≤ k ∧ k < j * 16 + 16 then FP.dconst0 else T.2.2.2.1 k) := by
    funext k
    simp only [va_up]
    by_cases q : k = j * 16 + i
    · rw [if_pos q, if_neg (by omega), if_pos (by omega)]
    · rw [if_neg q]
      by_cases r : j * 16 + i ≤ k ∧ k < j * 16 + 16
      · rw [if_pos (by omega), if_pos r]
      · rw [if_neg (by omega), if_neg r]
  show (_, _, _, (fun k => if j * 16 + (i + 1) ≤ k ∧ k < j * 16 + 16 then FP.dconst0 else va_up T.2.2.2.1 (j * 16 + i) FP.dconst0 k), _) = _
  rw [e]; rfl
set_option maxHeartbeats 1000000 in
set_option maxRecDepth 20000 in
theorem lp_chg {l : Launch} {G : pm_G} {fi : Bool} {Post : pm_O × pm_H → Prop}   : ∀ (d i : Nat) (T : mS) (h : pm_H), mH T h → i + d = 14 → (∀ h', mH (msZ T i) h' → mFr h h' → pm_Px l G fi fi 0 0 M_Mo_change 26 [(1, .int (nI 14)), (0, .ref (95))] [] h' Post) → pm_Px l G fi fi 0 0 M_Mo_change 7 [(1, .int (nI i)), (0, .ref (95))] [] h Post := by
  intro d
  induction d with
  | zero =>
    intro i T h H hd K
    obtain rfl : i = 14 := by omega
    rw [msZ_14] at K
    refine px (fun _ => pm_iload_n (pc := 7) d_Mo_change_7 rfl) ?_
    refine px (fun _ => pm_bipush (v := 14) (pc := 8) d_Mo_change_8 rfl) ?_
    refine pxb (fun _ => pm_icmp_ge (pc := 10) (tgt := 26) d_Mo_change_10 (by decide)) (fun c_1 => ?_) (fun c_1 => absurd ((nI_leI (a := 14) (b := 14) (by omega) (by omega)).mpr (by omega)) c_1)
    exact K h H (mFr.rf h)
  | succ d ih =>
    intro i T h H hd K
    refine px (fun _ => pm_iload_n (pc := 7) d_Mo_change_7 rfl) ?_
    refine px (fun _ => pm_bipush (v := 14) (pc := 8) d_Mo_change_8 rfl) ?_
    refine pxb (fun _ => pm_icmp_ge (pc := 10) (tgt := 26) d_Mo_change_10 (by decide)) (fun c_1 => absurd c_1 (fun q => absurd ((nI_leI (a := 14) (b := i) (by omega) (by omega)).mp q) (by omega))) (fun c_1 => ?_)
    refine px (fun _ => pm_aload_n (pc := 13) d_Mo_change_13 rfl) ?_
    refine px (fun _ => pm_getf fl_Mo_41 (pc := 14) d_Mo_change_14 H.1 rfl) ?_
    refine px (fun _ => pm_iload_n (pc := 17) d_Mo_change_17 rfl) ?_
    refine px (fun _ => pm_iconst (v := 0) (pc := 18) d_Mo_change_18 rfl) ?_
    refine px (fun _ => pm_iast (j := i) (pc := 19) d_Mo_change_19 H.2.2.2.2.2.2.2.2.2.2.2.1 (rfl) ((by omega)) (by decide)) ?_
    have H_2 : mH (msA T 10 i 0) (h.set (106) (pm_I 14 (va_up (fun j => nI (mA T 10 j)) (i) (0)))) := H.A10 (j := i) (v := 0)
    refine px (fun _ => pm_iinc (x := nI i) (v := nI (i + 1)) (lv' := [(1, .int (nI (i + 1))), (0, .ref (95))]) (pc := 20) d_Mo_change_20 rfl (nI_1 _) (by decide) rfl) ?_
    refine px (fun _ => pm_goto (tgt := 7) (pc := 23) d_Mo_change_23 (by decide)) ?_
    refine pxd [0, 1] rfl ?_
    exact ih (i + 1) _ _ H_2 (by omega) (fun h' H' F' => K h' (by rw [msZ_s T (by omega)] at H'; exact H') (((mFr.set _ _ (by omega))).tr F'))
set_option maxHeartbeats 1000000 in
set_option maxRecDepth 20000 in
theorem m_change {l : Launch} {G : pm_G} {fi : Bool} {h : pm_H} {T : mS}  (hl : l.stackTraces = false) (H : mH T h)  : pm_Cn l G fi fi 0 0 M_Mo_change [.ref (95)] h (m_P none (mChg T) h) := by
  refine pm_Cn.of hl (by decide) (Nat.le_of_ble_eq_true rfl) ?_
  refine px (fun _ => pm_aload_n (pc := 0) d_Mo_change_0 rfl) ?_
  refine px (fun _ => pm_iconst (v := 0) (pc := 1) d_Mo_change_1 rfl) ?_
  refine px (fun _ => pm_putfC (c' := pm_Ob 4 [.ref (96), .ref (97), .ref (98), .ref (99), .ref (100), .ref (101), .ref (102), .ref (103), .ref (104), .ref (105), .ref (106), .ref (107), .ref (108), .ref (109), .int (nI (mG T 0)), .int (nI (mG T 1)), .int (nI (mG T 2)), .int (nI (mG T 3)), .int (nI (mG T 4)), .int (nI (mG T 5)), .int (0)]) fp_Mo_53 (pc := 2) d_Mo_change_2 H.1 (Nat.le_of_ble_eq_true rfl) rfl rfl rfl) ?_
  have H_1 : mH (msG T 6 0) (h.set (95) (pm_Ob 4 [.ref (96), .ref (97), .ref (98), .ref (99), .ref (100), .ref (101), .ref (102), .ref (103), .ref (104), .ref (105), .ref (106), .ref (107), .ref (108), .ref (109), .int (nI (mG T 0)), .int (nI (mG T 1)), .int (nI (mG T 2)), .int (nI (mG T 3)), .int (nI (mG T 4)), .int (nI (mG T 5)), .int (0)])) := H.G6 (v := 0)
  refine px (fun _ => pm_iconst (v := 0) (pc := 5) d_Mo_change_5 rfl) ?_
  refine px (fun _ => pm_istore_n (lv' := [(1, .int (0)), (0, .ref (95))]) (pc := 6) d_Mo_change_6 (by decide) rfl) ?_
  refine pxd [0, 1] rfl ?_
  refine lp_chg 14 0 _ _ H_1 (by omega) (fun h5 H5 F5 => ?_)
  refine px (fun _ => pm_aload_n (pc := 26) d_Mo_change_26 rfl) ?_
  refine px (fun _ => pm_iconst (v := 0) (pc := 27) d_Mo_change_27 rfl) ?_
  refine px (fun _ => pm_putfC (c' := pm_Ob 4 [.ref (96), .ref (97), .ref (98), .ref (99), .ref (100), .ref (101), .ref (102), .ref (103), .ref (104), .ref (105), .ref (106), .ref (107), .ref (108), .ref (109), .int (nI (mG (msZ (msG T 6 0) 0) 0)), .int (0), .int (nI (mG (msZ (msG T 6 0) 0) 2)), .int (nI (mG (msZ (msG T 6 0) 0) 3)), .int (nI (mG (msZ (msG T 6 0) 0) 4)), .int (nI (mG (msZ (msG T 6 0) 0) 5)), .int (nI (mG (msZ (msG T 6 0) 0) 6))]) fp_Mo_61 (pc := 28) d_Mo_change_28 H5.1 (Nat.le_of_ble_eq_true rfl) rfl rfl rfl) ?_
  have H_2 : mH (msG (msZ (msG T 6 0) 0) 1 0) (h5.set (95) (pm_Ob 4 [.ref (96), .ref (97), .ref (98), .ref (99), .ref (100), .ref (101), .ref (102), .ref (103), .ref (104), .ref (105), .ref (106), .ref (107), .ref (108), .ref (109), .int (nI (mG (msZ (msG T 6 0) 0) 0)), .int (0), .int (nI (mG (msZ (msG T 6 0) 0) 2)), .int (nI (mG (msZ (msG T 6 0) 0) 3)), .int (nI (mG (msZ (msG T 6 0) 0) 4)), .int (nI (mG (msZ (msG T 6 0) 0) 5)), .int (nI (mG (msZ (msG T 6 0) 0) 6))])) := H5.G1 (v := 0)
  exact pxr (pm_vret (pc := 31) d_Mo_change_31 rfl) ⟨rfl, H_2, ((mFr.set _ _ (by omega))).tr ((F5).tr ((mFr.set _ _ (by omega))))⟩
set_option maxHeartbeats 1000000 in
set_option maxRecDepth 20000 in
theorem lp_mtab {l : Launch} {G : pm_G} {fi : Bool} {Post : pm_O × pm_H → Prop} {j : Nat} (hj : j < 20) : ∀ (d i : Nat) (T : mS) (h : pm_H), mH T h → i + d = 16 → (∀ h', mH (msV0 T j i) h' → mFr h h' → pm_Px l G fi fi 0 0 M_Mo_table 132 [(6, .int (nI 16)), (0, .ref (95)), (1, .int (nI j))] [] h' Post) → pm_Px l G fi fi 0 0 M_Mo_table 106 [(6, .int (nI i)), (0, .ref (95)), (1, .int (nI j))] [] h Post := by
  intro d
  induction d with
  | zero =>
    intro i T h H hd K
    obtain rfl : i = 16 := by omega
    rw [msV0_16] at K
    refine px (fun _ => pm_iload (pc := 106) d_Mo_table_106 rfl) ?_
    refine px (fun _ => pm_bipush (v := 16) (pc := 108) d_Mo_table_108 rfl) ?_
    refine pxb (fun _ => pm_icmp_ge (pc := 110) (tgt := 132) d_Mo_table_110 (by decide)) (fun c_1 => ?_) (fun c_1 => absurd ((nI_leI (a := 16) (b := 16) (by omega) (by omega)).mpr (by omega)) c_1)
    exact K h H (mFr.rf h)
  | succ d ih =>
    intro i T h H hd K
    refine px (fun _ => pm_iload (pc := 106) d_Mo_table_106 rfl) ?_
    refine px (fun _ => pm_bipush (v := 16) (pc := 108) d_Mo_table_108 rfl) ?_
    refine pxb (fun _ => pm_icmp_ge (pc := 110) (tgt := 132) d_Mo_table_110 (by decide)) (fun c_1 => absurd c_1 (fun q => absurd ((nI_leI (a := 16) (b := i) (by omega) (by omega)).mp q) (by omega))) (fun c_1 => ?_)
    refine px (fun _ => pm_aload_n (pc := 113) d_Mo_table_113 rfl) ?_
    refine px (fun _ => pm_getf fl_Mo_25 (pc := 114) d_Mo_table_114 H.1 rfl) ?_
    refine px (fun _ => pm_iload_n (pc := 117) d_Mo_table_117 rfl) ?_
    refine px (fun _ => pm_bipush (v := 16) (pc := 118) d_Mo_table_118 rfl) ?_
    refine px (fun _ => pm_imulN (a := j) (b := 16) (pc := 120) d_Mo_table_120) ?_
    refine px (fun _ => pm_iload (pc := 121) d_Mo_table_121 rfl) ?_
    refine px (fun _ => pm_iaddN (a := (j * 16)) (b := i) (pc := 123) d_Mo_table_123) ?_
    refine px (fun _ => pm_dconst0 (pc := 124) d_Mo_table_124) ?_
    refine px (fun _ => pm_dast (j := j * 16 + i) (pc := 125) d_Mo_table_125 H.2.2.2.2.2.2.1 (rfl) (by omega) (by decide)) ?_
    have H_2 : mH (msV T (j * 16 + i) FP.dconst0) (h.set (101) (pm_Dd 320 (va_up (mV T) (j * 16 + i) (FP.dconst0)))) := H.V (j := j * 16 + i) (v := FP.dconst0)
    refine px (fun _ => pm_iinc (x := nI i) (v := nI (i + 1)) (lv' := [(6, .int (nI (i + 1))), (0, .ref (95)), (1, .int (nI j))]) (pc := 126) d_Mo_table_126 rfl (nI_1 _) (by decide) rfl) ?_
    refine px (fun _ => pm_goto (tgt := 106) (pc := 129) d_Mo_table_129 (by decide)) ?_
    refine pxd [0, 1, 2] rfl ?_
    exact ih (i + 1) _ _ H_2 (by omega) (fun h' H' F' => K h' (by rw [msV0_s T j (by omega)] at H'; exact H') (((mFr.set _ _ (by omega))).tr F'))
set_option maxHeartbeats 1000000 in
set_option maxRecDepth 20000 in
theorem m_table_ok0 {l : Launch} {G : pm_G} {fi : Bool} {h : pm_H} {T : mS} {j t r c : Nat} (hl : l.stackTraces = false) (H : mH T h) (hj : j < 20) (hk : mA T 0 j = 0) (ht : t ≤ 1) (hr : 1 ≤ r ∧ r ≤ 4) (hc : 1 ≤ c ∧ c ≤ 4) : pm_Cn l G fi fi 0 0 M_Mo_table [.ref (95), .int (nI j), .int (nI t), .int (nI r), .int (nI c), .int (0)] h (m_P none (mChg (mtS T j 1 t r c)) h) := by
  refine pm_Cn.of hl (by decide) (Nat.le_of_ble_eq_true rfl) ?_
  refine px (fun _ => pm_aload_n (pc := 0) d_Mo_table_0 rfl) ?_
  refine px (fun _ => pm_aload_n (pc := 1) d_Mo_table_1 rfl) ?_
  refine px (fun _ => pm_iload_n (pc := 2) d_Mo_table_2 rfl) ?_
  refine px (fun _ => k_Mo_table_3 (kc1 := 0) (ks1 := 0) (kc := 0) (ks := 0) (av := [.int (nI j)]) (st := [.ref (95)]) H.1 (m_ns_in hl H hj) rfl rfl (Nat.le_of_ble_eq_true rfl)) ?_
  refine pxn (fun _ => pm_if_ne (pc := 6) (tgt := 49) d_Mo_table_6 (by decide)) (fun c_1 => absurd (by decide) c_1) (fun c_1 => ?_)
  refine px (fun _ => pm_aload_n (pc := 9) d_Mo_table_9 rfl) ?_
  refine px (fun _ => pm_getf fl_Mo_7 (pc := 10) d_Mo_table_10 H.1 rfl) ?_
  refine px (fun _ => pm_iload_n (pc := 13) d_Mo_table_13 rfl) ?_
  refine px (fun _ => pm_iald (j := j) (pc := 14) d_Mo_table_14 H.2.1 (rfl) (hj) (by decide)) ?_
  refine pxn (fun _ => pm_if_ne (pc := 15) (tgt := 49) d_Mo_table_15 (by decide)) (fun c_2 => absurd (by rw [hk]; rfl) c_2) (fun c_2 => ?_)
  refine px (fun _ => pm_aload_n (pc := 18) d_Mo_table_18 rfl) ?_
  refine px (fun _ => pm_iload_n (pc := 19) d_Mo_table_19 rfl) ?_
  refine px (fun _ => pm_iconst (v := 0) (pc := 20) d_Mo_table_20 rfl) ?_
  refine px (fun _ => pm_iconst (v := 1) (pc := 21) d_Mo_table_21 rfl) ?_
  refine px (fun _ => k_Mo_table_22 (kc1 := 0) (ks1 := 0) (kc := 0) (ks := 0) (av := [.int (nI t), .int (0), .int (1)]) (st := [.ref (95)]) H.1 (m_out_in hl H (g_nin (n := t) (lo := 0) (hi := 1) (by omega) (by omega) (by omega)).1 (g_nin (n := t) (lo := 0) (hi := 1) (by omega) (by omega) (by omega)).2) rfl rfl (Nat.le_of_ble_eq_true rfl)) ?_
  refine pxn (fun _ => pm_if_ne (pc := 25) (tgt := 49) d_Mo_table_25 (by decide)) (fun c_3 => absurd (by decide) c_3) (fun c_3 => ?_)
  refine px (fun _ => pm_aload_n (pc := 28) d_Mo_table_28 rfl) ?_
  refine px (fun _ => pm_iload_n (pc := 29) d_Mo_table_29 rfl) ?_
  refine px (fun _ => pm_iconst (v := 1) (pc := 30) d_Mo_table_30 rfl) ?_
  refine px (fun _ => pm_iconst (v := 4) (pc := 31) d_Mo_table_31 rfl) ?_
  refine px (fun _ => k_Mo_table_32 (kc1 := 0) (ks1 := 0) (kc := 0) (ks := 0) (av := [.int (nI r), .int (1), .int (4)]) (st := [.ref (95)]) H.1 (m_out_in hl H (g_nin (n := r) (lo := 1) (hi := 4) (by omega) (by omega) (by omega)).1 (g_nin (n := r) (lo := 1) (hi := 4) (by omega) (by omega) (by omega)).2) rfl rfl (Nat.le_of_ble_eq_true rfl)) ?_
  refine pxn (fun _ => pm_if_ne (pc := 35) (tgt := 49) d_Mo_table_35 (by decide)) (fun c_4 => absurd (by decide) c_4) (fun c_4 => ?_)
  refine px (fun _ => pm_aload_n (pc := 38) d_Mo_table_38 rfl) ?_
  refine px (fun _ => pm_iload (pc := 39) d_Mo_table_39 rfl) ?_
  refine px (fun _ => pm_iconst (v := 1) (pc := 41) d_Mo_table_41 rfl) ?_
  refine px (fun _ => pm_iconst (v := 4) (pc := 42) d_Mo_table_42 rfl) ?_
  refine px (fun _ => k_Mo_table_43 (kc1 := 0) (ks1 := 0) (kc := 0) (ks := 0) (av := [.int (nI c), .int (1), .int (4)]) (st := [.ref (95)]) H.1 (m_out_in hl H (g_nin (n := c) (lo := 1) (hi := 4) (by omega) (by omega) (by omega)).1 (g_nin (n := c) (lo := 1) (hi := 4) (by omega) (by omega) (by omega)).2) rfl rfl (Nat.le_of_ble_eq_true rfl)) ?_
  refine pxb (fun _ => pm_if_eq (pc := 46) (tgt := 53) d_Mo_table_46 (by decide)) (fun c_5 => ?_) (fun c_5 => absurd (by decide) c_5)
  refine px (fun _ => pm_iconst (v := 0) (pc := 53) d_Mo_table_53 rfl) ?_
  refine px (fun _ => pm_putfC (c' := pm_Ob 4 [.ref (96), .ref (97), .ref (98), .ref (99), .ref (100), .ref (101), .ref (102), .ref (103), .ref (104), .ref (105), .ref (106), .ref (107), .ref (108), .ref (109), .int (nI (mG T 0)), .int (nI (mG T 1)), .int (nI (mG T 2)), .int (nI (mG T 3)), .int (nI (mG T 4)), .int (0), .int (nI (mG T 6))]) fp_Mo_57 (pc := 54) d_Mo_table_54 H.1 (Nat.le_of_ble_eq_true rfl) rfl rfl rfl) ?_
  have H_6 : mH (msG T 5 0) (h.set (95) (pm_Ob 4 [.ref (96), .ref (97), .ref (98), .ref (99), .ref (100), .ref (101), .ref (102), .ref (103), .ref (104), .ref (105), .ref (106), .ref (107), .ref (108), .ref (109), .int (nI (mG T 0)), .int (nI (mG T 1)), .int (nI (mG T 2)), .int (nI (mG T 3)), .int (nI (mG T 4)), .int (0), .int (nI (mG T 6))])) := H.G5 (v := 0)
  refine px (fun _ => pm_aload_n (pc := 57) d_Mo_table_57 rfl) ?_
  refine px (fun _ => pm_getf fl_Mo_57 (pc := 58) d_Mo_table_58 H_6.1 rfl) ?_
  refine pxb (fun _ => pm_if_eq (pc := 61) (tgt := 65) d_Mo_table_61 (by decide)) (fun c_7 => ?_) (fun c_7 => absurd (rfl) c_7)
  refine px (fun _ => pm_aload_n (pc := 65) d_Mo_table_65 rfl) ?_
  refine px (fun _ => pm_getf fl_Mo_7 (pc := 66) d_Mo_table_66 H_6.1 rfl) ?_
  refine px (fun _ => pm_iload_n (pc := 69) d_Mo_table_69 rfl) ?_
  refine px (fun _ => pm_iload (pc := 70) d_Mo_table_70 rfl) ?_
  refine pxb (fun _ => pm_if_eq (pc := 72) (tgt := 79) d_Mo_table_72 (by decide)) (fun c_8 => ?_) (fun c_8 => absurd (by decide) c_8)
  refine px (fun _ => pm_iconst (v := 1) (pc := 79) d_Mo_table_79 rfl) ?_
  refine px (fun _ => pm_iast (j := j) (pc := 80) d_Mo_table_80 H_6.2.1 (rfl) (hj) (by decide)) ?_
  have H_9 : mH (msA (msG T 5 0) 0 j 1) ((h.set (95) (pm_Ob 4 [.ref (96), .ref (97), .ref (98), .ref (99), .ref (100), .ref (101), .ref (102), .ref (103), .ref (104), .ref (105), .ref (106), .ref (107), .ref (108), .ref (109), .int (nI (mG T 0)), .int (nI (mG T 1)), .int (nI (mG T 2)), .int (nI (mG T 3)), .int (nI (mG T 4)), .int (0), .int (nI (mG T 6))])).set (96) (pm_I 20 (va_up (fun j => nI (mA (msG T 5 0) 0 j)) (j) (1)))) := H_6.A0 (j := j) (v := 1)
  refine px (fun _ => pm_aload_n (pc := 81) d_Mo_table_81 rfl) ?_
  refine px (fun _ => pm_getf fl_Mo_13 (pc := 82) d_Mo_table_82 H_9.1 rfl) ?_
  refine px (fun _ => pm_iload_n (pc := 85) d_Mo_table_85 rfl) ?_
  refine px (fun _ => pm_iload_n (pc := 86) d_Mo_table_86 rfl) ?_
  refine px (fun _ => pm_iast (j := j) (pc := 87) d_Mo_table_87 H_9.2.2.1 (rfl) (hj) (by decide)) ?_
  have H_10 : mH (msA (msA (msG T 5 0) 0 j 1) 1 j t) (((h.set (95) (pm_Ob 4 [.ref (96), .ref (97), .ref (98), .ref (99), .ref (100), .ref (101), .ref (102), .ref (103), .ref (104), .ref (105), .ref (106), .ref (107), .ref (108), .ref (109), .int (nI (mG T 0)), .int (nI (mG T 1)), .int (nI (mG T 2)), .int (nI (mG T 3)), .int (nI (mG T 4)), .int (0), .int (nI (mG T 6))])).set (96) (pm_I 20 (va_up (fun j => nI (mA (msG T 5 0) 0 j)) (j) (1)))).set (97) (pm_I 20 (va_up (fun j => nI (mA (msA (msG T 5 0) 0 j 1) 1 j)) (j) (nI t)))) := H_9.A1 (j := j) (v := t)
  refine px (fun _ => pm_aload_n (pc := 88) d_Mo_table_88 rfl) ?_
  refine px (fun _ => pm_getf fl_Mo_16 (pc := 89) d_Mo_table_89 H_10.1 rfl) ?_
  refine px (fun _ => pm_iload_n (pc := 92) d_Mo_table_92 rfl) ?_
  refine px (fun _ => pm_iload_n (pc := 93) d_Mo_table_93 rfl) ?_
  refine px (fun _ => pm_iast (j := j) (pc := 94) d_Mo_table_94 H_10.2.2.2.1 (rfl) (hj) (by decide)) ?_
  have H_11 : mH (msA (msA (msA (msG T 5 0) 0 j 1) 1 j t) 2 j r) ((((h.set (95) (pm_Ob 4 [.ref (96), .ref (97), .ref (98), .ref (99), .ref (100), .ref (101), .ref (102), .ref (103), .ref (104), .ref (105), .ref (106), .ref (107), .ref (108), .ref (109), .int (nI (mG T 0)), .int (nI (mG T 1)), .int (nI (mG T 2)), .int (nI (mG T 3)), .int (nI (mG T 4)), .int (0), .int (nI (mG T 6))])).set (96) (pm_I 20 (va_up (fun j => nI (mA (msG T 5 0) 0 j)) (j) (1)))).set (97) (pm_I 20 (va_up (fun j => nI (mA (msA (msG T 5 0) 0 j 1) 1 j)) (j) (nI t)))).set (98) (pm_I 20 (va_up (fun j => nI (mA (msA (msA (msG T 5 0) 0 j 1) 1 j t) 2 j)) (j) (nI r)))) := H_10.A2 (j := j) (v := r)
  refine px (fun _ => pm_aload_n (pc := 95) d_Mo_table_95 rfl) ?_
  refine px (fun _ => pm_getf fl_Mo_19 (pc := 96) d_Mo_table_96 H_11.1 rfl) ?_
  refine px (fun _ => pm_iload_n (pc := 99) d_Mo_table_99 rfl) ?_
  refine px (fun _ => pm_iload (pc := 100) d_Mo_table_100 rfl) ?_
  refine px (fun _ => pm_iast (j := j) (pc := 102) d_Mo_table_102 H_11.2.2.2.2.1 (rfl) (hj) (by decide)) ?_
  have H_12 : mH (msA (msA (msA (msA (msG T 5 0) 0 j 1) 1 j t) 2 j r) 3 j c) (((((h.set (95) (pm_Ob 4 [.ref (96), .ref (97), .ref (98), .ref (99), .ref (100), .ref (101), .ref (102), .ref (103), .ref (104), .ref (105), .ref (106), .ref (107), .ref (108), .ref (109), .int (nI (mG T 0)), .int (nI (mG T 1)), .int (nI (mG T 2)), .int (nI (mG T 3)), .int (nI (mG T 4)), .int (0), .int (nI (mG T 6))])).set (96) (pm_I 20 (va_up (fun j => nI (mA (msG T 5 0) 0 j)) (j) (1)))).set (97) (pm_I 20 (va_up (fun j => nI (mA (msA (msG T 5 0) 0 j 1) 1 j)) (j) (nI t)))).set (98) (pm_I 20 (va_up (fun j => nI (mA (msA (msA (msG T 5 0) 0 j 1) 1 j t) 2 j)) (j) (nI r)))).set (99) (pm_I 20 (va_up (fun j => nI (mA (msA (msA (msA (msG T 5 0) 0 j 1) 1 j t) 2 j r) 3 j)) (j) (nI c)))) := H_11.A3 (j := j) (v := c)
  refine px (fun _ => pm_iconst (v := 0) (pc := 103) d_Mo_table_103 rfl) ?_
  refine px (fun _ => pm_istore (lv' := [(6, .int (0)), (0, .ref (95)), (1, .int (nI j)), (2, .int (nI t)), (3, .int (nI r)), (4, .int (nI c)), (5, .int (0))]) (pc := 104) d_Mo_table_104 (by decide) rfl) ?_
  refine pxd [0, 1, 2] rfl ?_
  refine lp_mtab hj 16 0 _ _ H_12 (by omega) (fun h5 H5 F5 => ?_)
  refine px (fun _ => pm_aload_n (pc := 132) d_Mo_table_132 rfl) ?_
  obtain ⟨⟨o13, h13⟩, ⟨e13, H13, F13⟩, en13⟩ := m_change (l := l) (G := G) (fi := fi) (T := msV0 (msA (msA (msA (msA (msG T 5 0) 0 j 1) 1 j t) 2 j r) 3 j c) j 0) hl H5
  dsimp only at e13 H13 F13
  subst e13
  refine px (fun _ => k_Mo_table_133 (kc1 := 0) (ks1 := 0) (kc := 0) (ks := 0) (av := []) (st := []) H5.1 (en13) rfl rfl (Nat.le_of_ble_eq_true rfl)) ?_
  exact pxr (pm_vret (pc := 136) d_Mo_table_136 rfl) ⟨rfl, H13, ((mFr.set _ _ (by omega))).tr (((mFr.set _ _ (by omega))).tr (((mFr.set _ _ (by omega))).tr (((mFr.set _ _ (by omega))).tr (((mFr.set _ _ (by omega))).tr ((F5).tr (F13))))))⟩
set_option maxHeartbeats 1000000 in
set_option maxRecDepth 20000 in
theorem m_table_ok1 {l : Launch} {G : pm_G} {fi : Bool} {h : pm_H} {T : mS} {j t r c : Nat} (hl : l.stackTraces = false) (H : mH T h) (hj : j < 20) (hk : mA T 0 j = 0) (ht : t ≤ 1) (hr : 1 ≤ r ∧ r ≤ 4) (hc : 1 ≤ c ∧ c ≤ 4) : pm_Cn l G fi fi 0 0 M_Mo_table [.ref (95), .int (nI j), .int (nI t), .int (nI r), .int (nI c), .int (1)] h (m_P none (mChg (mtS T j 2 t r c)) h) := by
  refine pm_Cn.of hl (by decide) (Nat.le_of_ble_eq_true rfl) ?_
  refine px (fun _ => pm_aload_n (pc := 0) d_Mo_table_0 rfl) ?_
  refine px (fun _ => pm_aload_n (pc := 1) d_Mo_table_1 rfl) ?_
  refine px (fun _ => pm_iload_n (pc := 2) d_Mo_table_2 rfl) ?_
  refine px (fun _ => k_Mo_table_3 (kc1 := 0) (ks1 := 0) (kc := 0) (ks := 0) (av := [.int (nI j)]) (st := [.ref (95)]) H.1 (m_ns_in hl H hj) rfl rfl (Nat.le_of_ble_eq_true rfl)) ?_
  refine pxn (fun _ => pm_if_ne (pc := 6) (tgt := 49) d_Mo_table_6 (by decide)) (fun c_1 => absurd (by decide) c_1) (fun c_1 => ?_)
  refine px (fun _ => pm_aload_n (pc := 9) d_Mo_table_9 rfl) ?_
  refine px (fun _ => pm_getf fl_Mo_7 (pc := 10) d_Mo_table_10 H.1 rfl) ?_
  refine px (fun _ => pm_iload_n (pc := 13) d_Mo_table_13 rfl) ?_
  refine px (fun _ => pm_iald (j := j) (pc := 14) d_Mo_table_14 H.2.1 (rfl) (hj) (by decide)) ?_
  refine pxn (fun _ => pm_if_ne (pc := 15) (tgt := 49) d_Mo_table_15 (by decide)) (fun c_2 => absurd (by rw [hk]; rfl) c_2) (fun c_2 => ?_)
  refine px (fun _ => pm_aload_n (pc := 18) d_Mo_table_18 rfl) ?_
  refine px (fun _ => pm_iload_n (pc := 19) d_Mo_table_19 rfl) ?_
  refine px (fun _ => pm_iconst (v := 0) (pc := 20) d_Mo_table_20 rfl) ?_
  refine px (fun _ => pm_iconst (v := 1) (pc := 21) d_Mo_table_21 rfl) ?_
  refine px (fun _ => k_Mo_table_22 (kc1 := 0) (ks1 := 0) (kc := 0) (ks := 0) (av := [.int (nI t), .int (0), .int (1)]) (st := [.ref (95)]) H.1 (m_out_in hl H (g_nin (n := t) (lo := 0) (hi := 1) (by omega) (by omega) (by omega)).1 (g_nin (n := t) (lo := 0) (hi := 1) (by omega) (by omega) (by omega)).2) rfl rfl (Nat.le_of_ble_eq_true rfl)) ?_
  refine pxn (fun _ => pm_if_ne (pc := 25) (tgt := 49) d_Mo_table_25 (by decide)) (fun c_3 => absurd (by decide) c_3) (fun c_3 => ?_)
  refine px (fun _ => pm_aload_n (pc := 28) d_Mo_table_28 rfl) ?_
  refine px (fun _ => pm_iload_n (pc := 29) d_Mo_table_29 rfl) ?_
  refine px (fun _ => pm_iconst (v := 1) (pc := 30) d_Mo_table_30 rfl) ?_
  refine px (fun _ => pm_iconst (v := 4) (pc := 31) d_Mo_table_31 rfl) ?_
  refine px (fun _ => k_Mo_table_32 (kc1 := 0) (ks1 := 0) (kc := 0) (ks := 0) (av := [.int (nI r), .int (1), .int (4)]) (st := [.ref (95)]) H.1 (m_out_in hl H (g_nin (n := r) (lo := 1) (hi := 4) (by omega) (by omega) (by omega)).1 (g_nin (n := r) (lo := 1) (hi := 4) (by omega) (by omega) (by omega)).2) rfl rfl (Nat.le_of_ble_eq_true rfl)) ?_
  refine pxn (fun _ => pm_if_ne (pc := 35) (tgt := 49) d_Mo_table_35 (by decide)) (fun c_4 => absurd (by decide) c_4) (fun c_4 => ?_)
  refine px (fun _ => pm_aload_n (pc := 38) d_Mo_table_38 rfl) ?_
  refine px (fun _ => pm_iload (pc := 39) d_Mo_table_39 rfl) ?_
  refine px (fun _ => pm_iconst (v := 1) (pc := 41) d_Mo_table_41 rfl) ?_
  refine px (fun _ => pm_iconst (v := 4) (pc := 42) d_Mo_table_42 rfl) ?_
  refine px (fun _ => k_Mo_table_43 (kc1 := 0) (ks1 := 0) (kc := 0) (ks := 0) (av := [.int (nI c), .int (1), .int (4)]) (st := [.ref (95)]) H.1 (m_out_in hl H (g_nin (n := c) (lo := 1) (hi := 4) (by omega) (by omega) (by omega)).1 (g_nin (n := c) (lo := 1) (hi := 4) (by omega) (by omega) (by omega)).2) rfl rfl (Nat.le_of_ble_eq_true rfl)) ?_
  refine pxb (fun _ => pm_if_eq (pc := 46) (tgt := 53) d_Mo_table_46 (by decide)) (fun c_5 => ?_) (fun c_5 => absurd (by decide) c_5)
  refine px (fun _ => pm_iconst (v := 0) (pc := 53) d_Mo_table_53 rfl) ?_
  refine px (fun _ => pm_putfC (c' := pm_Ob 4 [.ref (96), .ref (97), .ref (98), .ref (99), .ref (100), .ref (101), .ref (102), .ref (103), .ref (104), .ref (105), .ref (106), .ref (107), .ref (108), .ref (109), .int (nI (mG T 0)), .int (nI (mG T 1)), .int (nI (mG T 2)), .int (nI (mG T 3)), .int (nI (mG T 4)), .int (0), .int (nI (mG T 6))]) fp_Mo_57 (pc := 54) d_Mo_table_54 H.1 (Nat.le_of_ble_eq_true rfl) rfl rfl rfl) ?_
  have H_6 : mH (msG T 5 0) (h.set (95) (pm_Ob 4 [.ref (96), .ref (97), .ref (98), .ref (99), .ref (100), .ref (101), .ref (102), .ref (103), .ref (104), .ref (105), .ref (106), .ref (107), .ref (108), .ref (109), .int (nI (mG T 0)), .int (nI (mG T 1)), .int (nI (mG T 2)), .int (nI (mG T 3)), .int (nI (mG T 4)), .int (0), .int (nI (mG T 6))])) := H.G5 (v := 0)
  refine px (fun _ => pm_aload_n (pc := 57) d_Mo_table_57 rfl) ?_
  refine px (fun _ => pm_getf fl_Mo_57 (pc := 58) d_Mo_table_58 H_6.1 rfl) ?_
  refine pxb (fun _ => pm_if_eq (pc := 61) (tgt := 65) d_Mo_table_61 (by decide)) (fun c_7 => ?_) (fun c_7 => absurd (rfl) c_7)
  refine px (fun _ => pm_aload_n (pc := 65) d_Mo_table_65 rfl) ?_
  refine px (fun _ => pm_getf fl_Mo_7 (pc := 66) d_Mo_table_66 H_6.1 rfl) ?_
  refine px (fun _ => pm_iload_n (pc := 69) d_Mo_table_69 rfl) ?_
  refine px (fun _ => pm_iload (pc := 70) d_Mo_table_70 rfl) ?_
  refine pxb (fun _ => pm_if_eq (pc := 72) (tgt := 79) d_Mo_table_72 (by decide)) (fun c_8 => absurd c_8 (by decide)) (fun c_8 => ?_)
  refine px (fun _ => pm_iconst (v := 2) (pc := 75) d_Mo_table_75 rfl) ?_
  refine px (fun _ => pm_goto (tgt := 80) (pc := 76) d_Mo_table_76 (by decide)) ?_
  refine px (fun _ => pm_iast (j := j) (pc := 80) d_Mo_table_80 H_6.2.1 (rfl) (hj) (by decide)) ?_
  have H_9 : mH (msA (msG T 5 0) 0 j 2) ((h.set (95) (pm_Ob 4 [.ref (96), .ref (97), .ref (98), .ref (99), .ref (100), .ref (101), .ref (102), .ref (103), .ref (104), .ref (105), .ref (106), .ref (107), .ref (108), .ref (109), .int (nI (mG T 0)), .int (nI (mG T 1)), .int (nI (mG T 2)), .int (nI (mG T 3)), .int (nI (mG T 4)), .int (0), .int (nI (mG T 6))])).set (96) (pm_I 20 (va_up (fun j => nI (mA (msG T 5 0) 0 j)) (j) (2)))) := H_6.A0 (j := j) (v := 2)
  refine px (fun _ => pm_aload_n (pc := 81) d_Mo_table_81 rfl) ?_
  refine px (fun _ => pm_getf fl_Mo_13 (pc := 82) d_Mo_table_82 H_9.1 rfl) ?_
  refine px (fun _ => pm_iload_n (pc := 85) d_Mo_table_85 rfl) ?_
  refine px (fun _ => pm_iload_n (pc := 86) d_Mo_table_86 rfl) ?_
  refine px (fun _ => pm_iast (j := j) (pc := 87) d_Mo_table_87 H_9.2.2.1 (rfl) (hj) (by decide)) ?_
  have H_10 : mH (msA (msA (msG T 5 0) 0 j 2) 1 j t) (((h.set (95) (pm_Ob 4 [.ref (96), .ref (97), .ref (98), .ref (99), .ref (100), .ref (101), .ref (102), .ref (103), .ref (104), .ref (105), .ref (106), .ref (107), .ref (108), .ref (109), .int (nI (mG T 0)), .int (nI (mG T 1)), .int (nI (mG T 2)), .int (nI (mG T 3)), .int (nI (mG T 4)), .int (0), .int (nI (mG T 6))])).set (96) (pm_I 20 (va_up (fun j => nI (mA (msG T 5 0) 0 j)) (j) (2)))).set (97) (pm_I 20 (va_up (fun j => nI (mA (msA (msG T 5 0) 0 j 2) 1 j)) (j) (nI t)))) := H_9.A1 (j := j) (v := t)
  refine px (fun _ => pm_aload_n (pc := 88) d_Mo_table_88 rfl) ?_
  refine px (fun _ => pm_getf fl_Mo_16 (pc := 89) d_Mo_table_89 H_10.1 rfl) ?_
  refine px (fun _ => pm_iload_n (pc := 92) d_Mo_table_92 rfl) ?_
  refine px (fun _ => pm_iload_n (pc := 93) d_Mo_table_93 rfl) ?_
  refine px (fun _ => pm_iast (j := j) (pc := 94) d_Mo_table_94 H_10.2.2.2.1 (rfl) (hj) (by decide)) ?_
  have H_11 : mH (msA (msA (msA (msG T 5 0) 0 j 2) 1 j t) 2 j r) ((((h.set (95) (pm_Ob 4 [.ref (96), .ref (97), .ref (98), .ref (99), .ref (100), .ref (101), .ref (102), .ref (103), .ref (104), .ref (105), .ref (106), .ref (107), .ref (108), .ref (109), .int (nI (mG T 0)), .int (nI (mG T 1)), .int (nI (mG T 2)), .int (nI (mG T 3)), .int (nI (mG T 4)), .int (0), .int (nI (mG T 6))])).set (96) (pm_I 20 (va_up (fun j => nI (mA (msG T 5 0) 0 j)) (j) (2)))).set (97) (pm_I 20 (va_up (fun j => nI (mA (msA (msG T 5 0) 0 j 2) 1 j)) (j) (nI t)))).set (98) (pm_I 20 (va_up (fun j => nI (mA (msA (msA (msG T 5 0) 0 j 2) 1 j t) 2 j)) (j) (nI r)))) := H_10.A2 (j := j) (v := r)
  refine px (fun _ => pm_aload_n (pc := 95) d_Mo_table_95 rfl) ?_
  refine px (fun _ => pm_getf fl_Mo_19 (pc := 96) d_Mo_table_96 H_11.1 rfl) ?_
  refine px (fun _ => pm_iload_n (pc := 99) d_Mo_table_99 rfl) ?_
  refine px (fun _ => pm_iload (pc := 100) d_Mo_table_100 rfl) ?_
  refine px (fun _ => pm_iast (j := j) (pc := 102) d_Mo_table_102 H_11.2.2.2.2.1 (rfl) (hj) (by decide)) ?_
  have H_12 : mH (msA (msA (msA (msA (msG T 5 0) 0 j 2) 1 j t) 2 j r) 3 j c) (((((h.set (95) (pm_Ob 4 [.ref (96), .ref (97), .ref (98), .ref (99), .ref (100), .ref (101), .ref (102), .ref (103), .ref (104), .ref (105), .ref (106), .ref (107), .ref (108), .ref (109), .int (nI (mG T 0)), .int (nI (mG T 1)), .int (nI (mG T 2)), .int (nI (mG T 3)), .int (nI (mG T 4)), .int (0), .int (nI (mG T 6))])).set (96) (pm_I 20 (va_up (fun j => nI (mA (msG T 5 0) 0 j)) (j) (2)))).set (97) (pm_I 20 (va_up (fun j => nI (mA (msA (msG T 5 0) 0 j 2) 1 j)) (j) (nI t)))).set (98) (pm_I 20 (va_up (fun j => nI (mA (msA (msA (msG T 5 0) 0 j 2) 1 j t) 2 j)) (j) (nI r)))).set (99) (pm_I 20 (va_up (fun j => nI (mA (msA (msA (msA (msG T 5 0) 0 j 2) 1 j t) 2 j r) 3 j)) (j) (nI c)))) := H_11.A3 (j := j) (v := c)
  refine px (fun _ => pm_iconst (v := 0) (pc := 103) d_Mo_table_103 rfl) ?_
  refine px (fun _ => pm_istore (lv' := [(6, .int (0)), (0, .ref (95)), (1, .int (nI j)), (2, .int (nI t)), (3, .int (nI r)), (4, .int (nI c)), (5, .int (1))]) (pc := 104) d_Mo_table_104 (by decide) rfl) ?_
  refine pxd [0, 1, 2] rfl ?_
  refine lp_mtab hj 16 0 _ _ H_12 (by omega) (fun h5 H5 F5 => ?_)
  refine px (fun _ => pm_aload_n (pc := 132) d_Mo_table_132 rfl) ?_
  obtain ⟨⟨o13, h13⟩, ⟨e13, H13, F13⟩, en13⟩ := m_change (l := l) (G := G) (fi := fi) (T := msV0 (msA (msA (msA (msA (msG T 5 0) 0 j 2) 1 j t) 2 j r) 3 j c) j 0) hl H5
  dsimp only at e13 H13 F13
  subst e13
  refine px (fun _ => k_Mo_table_133 (kc1 := 0) (ks1 := 0) (kc := 0) (ks := 0) (av := []) (st := []) H5.1 (en13) rfl rfl (Nat.le_of_ble_eq_true rfl)) ?_
  exact pxr (pm_vret (pc := 136) d_Mo_table_136 rfl) ⟨rfl, H13, ((mFr.set _ _ (by omega))).tr (((mFr.set _ _ (by omega))).tr (((mFr.set _ _ (by omega))).tr (((mFr.set _ _ (by omega))).tr (((mFr.set _ _ (by omega))).tr ((F5).tr (F13))))))⟩
set_option maxHeartbeats 1000000 in
set_option maxRecDepth 20000 in
theorem m_table_out {l : Launch} {G : pm_G} {fi : Bool} {h : pm_H} {T : mS} {s ty rw cl kf : Int32} (hl : l.stackTraces = false) (H : mH T h) (hs : s < 0 ∨ 20 ≤ s) : pm_Cn l G fi fi 0 0 M_Mo_table [.ref (95), .int (s), .int (ty), .int (rw), .int (cl), .int (kf)] h (m_P none (msG T 5 1) h) := by
  refine pm_Cn.of hl (by decide) (Nat.le_of_ble_eq_true rfl) ?_
  refine px (fun _ => pm_aload_n (pc := 0) d_Mo_table_0 rfl) ?_
  refine px (fun _ => pm_aload_n (pc := 1) d_Mo_table_1 rfl) ?_
  refine px (fun _ => pm_iload_n (pc := 2) d_Mo_table_2 rfl) ?_
  refine px (fun _ => k_Mo_table_3 (kc1 := 0) (ks1 := 0) (kc := 0) (ks := 0) (av := [.int (s)]) (st := [.ref (95)]) H.1 (m_ns_out hl H hs) rfl rfl (Nat.le_of_ble_eq_true rfl)) ?_
  refine pxn (fun _ => pm_if_ne (pc := 6) (tgt := 49) d_Mo_table_6 (by decide)) (fun c_1 => ?_) (fun c_1 => absurd c_1 (by decide))
  refine px (fun _ => pm_iconst (v := 1) (pc := 49) d_Mo_table_49 rfl) ?_
  refine px (fun _ => pm_goto (tgt := 54) (pc := 50) d_Mo_table_50 (by decide)) ?_
  refine px (fun _ => pm_putfC (c' := pm_Ob 4 [.ref (96), .ref (97), .ref (98), .ref (99), .ref (100), .ref (101), .ref (102), .ref (103), .ref (104), .ref (105), .ref (106), .ref (107), .ref (108), .ref (109), .int (nI (mG T 0)), .int (nI (mG T 1)), .int (nI (mG T 2)), .int (nI (mG T 3)), .int (nI (mG T 4)), .int (1), .int (nI (mG T 6))]) fp_Mo_57 (pc := 54) d_Mo_table_54 H.1 (Nat.le_of_ble_eq_true rfl) rfl rfl rfl) ?_
  have H_2 : mH (msG T 5 1) (h.set (95) (pm_Ob 4 [.ref (96), .ref (97), .ref (98), .ref (99), .ref (100), .ref (101), .ref (102), .ref (103), .ref (104), .ref (105), .ref (106), .ref (107), .ref (108), .ref (109), .int (nI (mG T 0)), .int (nI (mG T 1)), .int (nI (mG T 2)), .int (nI (mG T 3)), .int (nI (mG T 4)), .int (1), .int (nI (mG T 6))])) := H.G5 (v := 1)
  refine px (fun _ => pm_aload_n (pc := 57) d_Mo_table_57 rfl) ?_
  refine px (fun _ => pm_getf fl_Mo_57 (pc := 58) d_Mo_table_58 H_2.1 rfl) ?_
  refine pxb (fun _ => pm_if_eq (pc := 61) (tgt := 65) d_Mo_table_61 (by decide)) (fun c_3 => absurd c_3 (fun q => absurd (show nI 1 = 0 from q) (by decide))) (fun c_3 => ?_)
  exact pxr (pm_vret (pc := 64) d_Mo_table_64 rfl) ⟨rfl, H_2, (mFr.set _ _ (by omega))⟩
set_option maxHeartbeats 1000000 in
set_option maxRecDepth 20000 in
theorem m_table_b1 {l : Launch} {G : pm_G} {fi : Bool} {h : pm_H} {T : mS} {j : Nat} {ty rw cl kf : Int32} (hl : l.stackTraces = false) (H : mH T h) (hj : j < 20) (hk : ¬ nI (mA T 0 j) = 0) : pm_Cn l G fi fi 0 0 M_Mo_table [.ref (95), .int (nI j), .int (ty), .int (rw), .int (cl), .int (kf)] h (m_P none (msG T 5 1) h) := by
  refine pm_Cn.of hl (by decide) (Nat.le_of_ble_eq_true rfl) ?_
  refine px (fun _ => pm_aload_n (pc := 0) d_Mo_table_0 rfl) ?_
  refine px (fun _ => pm_aload_n (pc := 1) d_Mo_table_1 rfl) ?_
  refine px (fun _ => pm_iload_n (pc := 2) d_Mo_table_2 rfl) ?_
  refine px (fun _ => k_Mo_table_3 (kc1 := 0) (ks1 := 0) (kc := 0) (ks := 0) (av := [.int (nI j)]) (st := [.ref (95)]) H.1 (m_ns_in hl H hj) rfl rfl (Nat.le_of_ble_eq_true rfl)) ?_
  refine pxn (fun _ => pm_if_ne (pc := 6) (tgt := 49) d_Mo_table_6 (by decide)) (fun c_1 => absurd (by decide) c_1) (fun c_1 => ?_)
  refine px (fun _ => pm_aload_n (pc := 9) d_Mo_table_9 rfl) ?_
  refine px (fun _ => pm_getf fl_Mo_7 (pc := 10) d_Mo_table_10 H.1 rfl) ?_
  refine px (fun _ => pm_iload_n (pc := 13) d_Mo_table_13 rfl) ?_
  refine px (fun _ => pm_iald (j := j) (pc := 14) d_Mo_table_14 H.2.1 (rfl) (hj) (by decide)) ?_
  refine pxn (fun _ => pm_if_ne (pc := 15) (tgt := 49) d_Mo_table_15 (by decide)) (fun c_2 => ?_) (fun c_2 => absurd c_2 (hk))
  refine px (fun _ => pm_iconst (v := 1) (pc := 49) d_Mo_table_49 rfl) ?_
  refine px (fun _ => pm_goto (tgt := 54) (pc := 50) d_Mo_table_50 (by decide)) ?_
  refine px (fun _ => pm_putfC (c' := pm_Ob 4 [.ref (96), .ref (97), .ref (98), .ref (99), .ref (100), .ref (101), .ref (102), .ref (103), .ref (104), .ref (105), .ref (106), .ref (107), .ref (108), .ref (109), .int (nI (mG T 0)), .int (nI (mG T 1)), .int (nI (mG T 2)), .int (nI (mG T 3)), .int (nI (mG T 4)), .int (1), .int (nI (mG T 6))]) fp_Mo_57 (pc := 54) d_Mo_table_54 H.1 (Nat.le_of_ble_eq_true rfl) rfl rfl rfl) ?_
  have H_3 : mH (msG T 5 1) (h.set (95) (pm_Ob 4 [.ref (96), .ref (97), .ref (98), .ref (99), .ref (100), .ref (101), .ref (102), .ref (103), .ref (104), .ref (105), .ref (106), .ref (107), .ref (108), .ref (109), .int (nI (mG T 0)), .int (nI (mG T 1)), .int (nI (mG T 2)), .int (nI (mG T 3)), .int (nI (mG T 4)), .int (1), .int (nI (mG T 6))])) := H.G5 (v := 1)
  refine px (fun _ => pm_aload_n (pc := 57) d_Mo_table_57 rfl) ?_
  refine px (fun _ => pm_getf fl_Mo_57 (pc := 58) d_Mo_table_58 H_3.1 rfl) ?_
  refine pxb (fun _ => pm_if_eq (pc := 61) (tgt := 65) d_Mo_table_61 (by decide)) (fun c_4 => absurd c_4 (fun q => absurd (show nI 1 = 0 from q) (by decide))) (fun c_4 => ?_)
  exact pxr (pm_vret (pc := 64) d_Mo_table_64 rfl) ⟨rfl, H_3, (mFr.set _ _ (by omega))⟩
set_option maxHeartbeats 1000000 in
set_option maxRecDepth 20000 in
theorem m_table_b2 {l : Launch} {G : pm_G} {fi : Bool} {h : pm_H} {T : mS} {j : Nat} {ty rw cl kf : Int32} (hl : l.stackTraces = false) (H : mH T h) (hj : j < 20) (hk : nI (mA T 0 j) = 0) (ht : ¬ (¬ ty < 0 ∧ ¬ 1 < ty)) : pm_Cn l G fi fi 0 0 M_Mo_table [.ref (95), .int (nI j), .int (ty), .int (rw), .int (cl), .int (kf)] h (m_P none (msG T 5 1) h) := by
  refine pm_Cn.of hl (by decide) (Nat.le_of_ble_eq_true rfl) ?_
  refine px (fun _ => pm_aload_n (pc := 0) d_Mo_table_0 rfl) ?_
  refine px (fun _ => pm_aload_n (pc := 1) d_Mo_table_1 rfl) ?_
  refine px (fun _ => pm_iload_n (pc := 2) d_Mo_table_2 rfl) ?_
  refine px (fun _ => k_Mo_table_3 (kc1 := 0) (ks1 := 0) (kc := 0) (ks := 0) (av := [.int (nI j)]) (st := [.ref (95)]) H.1 (m_ns_in hl H hj) rfl rfl (Nat.le_of_ble_eq_true rfl)) ?_
  refine pxn (fun _ => pm_if_ne (pc := 6) (tgt := 49) d_Mo_table_6 (by decide)) (fun c_1 => absurd (by decide) c_1) (fun c_1 => ?_)
  refine px (fun _ => pm_aload_n (pc := 9) d_Mo_table_9 rfl) ?_
  refine px (fun _ => pm_getf fl_Mo_7 (pc := 10) d_Mo_table_10 H.1 rfl) ?_
  refine px (fun _ => pm_iload_n (pc := 13) d_Mo_table_13 rfl) ?_
  refine px (fun _ => pm_iald (j := j) (pc := 14) d_Mo_table_14 H.2.1 (rfl) (hj) (by decide)) ?_
  refine pxn (fun _ => pm_if_ne (pc := 15) (tgt := 49) d_Mo_table_15 (by decide)) (fun c_2 => absurd (hk) c_2) (fun c_2 => ?_)
  refine px (fun _ => pm_aload_n (pc := 18) d_Mo_table_18 rfl) ?_
  refine px (fun _ => pm_iload_n (pc := 19) d_Mo_table_19 rfl) ?_
  refine px (fun _ => pm_iconst (v := 0) (pc := 20) d_Mo_table_20 rfl) ?_
  refine px (fun _ => pm_iconst (v := 1) (pc := 21) d_Mo_table_21 rfl) ?_
  refine px (fun _ => k_Mo_table_22 (kc1 := 0) (ks1 := 0) (kc := 0) (ks := 0) (av := [.int (ty), .int (0), .int (1)]) (st := [.ref (95)]) H.1 (m_out_out hl H ht) rfl rfl (Nat.le_of_ble_eq_true rfl)) ?_
  refine pxn (fun _ => pm_if_ne (pc := 25) (tgt := 49) d_Mo_table_25 (by decide)) (fun c_3 => ?_) (fun c_3 => absurd c_3 (by decide))
  refine px (fun _ => pm_iconst (v := 1) (pc := 49) d_Mo_table_49 rfl) ?_
  refine px (fun _ => pm_goto (tgt := 54) (pc := 50) d_Mo_table_50 (by decide)) ?_
  refine px (fun _ => pm_putfC (c' := pm_Ob 4 [.ref (96), .ref (97), .ref (98), .ref (99), .ref (100), .ref (101), .ref (102), .ref (103), .ref (104), .ref (105), .ref (106), .ref (107), .ref (108), .ref (109), .int (nI (mG T 0)), .int (nI (mG T 1)), .int (nI (mG T 2)), .int (nI (mG T 3)), .int (nI (mG T 4)), .int (1), .int (nI (mG T 6))]) fp_Mo_57 (pc := 54) d_Mo_table_54 H.1 (Nat.le_of_ble_eq_true rfl) rfl rfl rfl) ?_
  have H_4 : mH (msG T 5 1) (h.set (95) (pm_Ob 4 [.ref (96), .ref (97), .ref (98), .ref (99), .ref (100), .ref (101), .ref (102), .ref (103), .ref (104), .ref (105), .ref (106), .ref (107), .ref (108), .ref (109), .int (nI (mG T 0)), .int (nI (mG T 1)), .int (nI (mG T 2)), .int (nI (mG T 3)), .int (nI (mG T 4)), .int (1), .int (nI (mG T 6))])) := H.G5 (v := 1)
  refine px (fun _ => pm_aload_n (pc := 57) d_Mo_table_57 rfl) ?_
  refine px (fun _ => pm_getf fl_Mo_57 (pc := 58) d_Mo_table_58 H_4.1 rfl) ?_
  refine pxb (fun _ => pm_if_eq (pc := 61) (tgt := 65) d_Mo_table_61 (by decide)) (fun c_5 => absurd c_5 (fun q => absurd (show nI 1 = 0 from q) (by decide))) (fun c_5 => ?_)
  exact pxr (pm_vret (pc := 64) d_Mo_table_64 rfl) ⟨rfl, H_4, (mFr.set _ _ (by omega))⟩
set_option maxHeartbeats 1000000 in
set_option maxRecDepth 20000 in
theorem m_table_b3 {l : Launch} {G : pm_G} {fi : Bool} {h : pm_H} {T : mS} {j : Nat} {ty rw cl kf : Int32} (hl : l.stackTraces = false) (H : mH T h) (hj : j < 20) (hk : nI (mA T 0 j) = 0) (ht : ¬ ty < 0 ∧ ¬ 1 < ty) (hr : ¬ (¬ rw < 1 ∧ ¬ 4 < rw)) : pm_Cn l G fi fi 0 0 M_Mo_table [.ref (95), .int (nI j), .int (ty), .int (rw), .int (cl), .int (kf)] h (m_P none (msG T 5 1) h) := by
  refine pm_Cn.of hl (by decide) (Nat.le_of_ble_eq_true rfl) ?_
  refine px (fun _ => pm_aload_n (pc := 0) d_Mo_table_0 rfl) ?_
  refine px (fun _ => pm_aload_n (pc := 1) d_Mo_table_1 rfl) ?_
  refine px (fun _ => pm_iload_n (pc := 2) d_Mo_table_2 rfl) ?_
  refine px (fun _ => k_Mo_table_3 (kc1 := 0) (ks1 := 0) (kc := 0) (ks := 0) (av := [.int (nI j)]) (st := [.ref (95)]) H.1 (m_ns_in hl H hj) rfl rfl (Nat.le_of_ble_eq_true rfl)) ?_
  refine pxn (fun _ => pm_if_ne (pc := 6) (tgt := 49) d_Mo_table_6 (by decide)) (fun c_1 => absurd (by decide) c_1) (fun c_1 => ?_)
  refine px (fun _ => pm_aload_n (pc := 9) d_Mo_table_9 rfl) ?_
  refine px (fun _ => pm_getf fl_Mo_7 (pc := 10) d_Mo_table_10 H.1 rfl) ?_
  refine px (fun _ => pm_iload_n (pc := 13) d_Mo_table_13 rfl) ?_
  refine px (fun _ => pm_iald (j := j) (pc := 14) d_Mo_table_14 H.2.1 (rfl) (hj) (by decide)) ?_
  refine pxn (fun _ => pm_if_ne (pc := 15) (tgt := 49) d_Mo_table_15 (by decide)) (fun c_2 => absurd (hk) c_2) (fun c_2 => ?_)
  refine px (fun _ => pm_aload_n (pc := 18) d_Mo_table_18 rfl) ?_
  refine px (fun _ => pm_iload_n (pc := 19) d_Mo_table_19 rfl) ?_
  refine px (fun _ => pm_iconst (v := 0) (pc := 20) d_Mo_table_20 rfl) ?_
  refine px (fun _ => pm_iconst (v := 1) (pc := 21) d_Mo_table_21 rfl) ?_
  refine px (fun _ => k_Mo_table_22 (kc1 := 0) (ks1 := 0) (kc := 0) (ks := 0) (av := [.int (ty), .int (0), .int (1)]) (st := [.ref (95)]) H.1 (m_out_in hl H ht.1 ht.2) rfl rfl (Nat.le_of_ble_eq_true rfl)) ?_
  refine pxn (fun _ => pm_if_ne (pc := 25) (tgt := 49) d_Mo_table_25 (by decide)) (fun c_3 => absurd (by decide) c_3) (fun c_3 => ?_)
  refine px (fun _ => pm_aload_n (pc := 28) d_Mo_table_28 rfl) ?_
  refine px (fun _ => pm_iload_n (pc := 29) d_Mo_table_29 rfl) ?_
  refine px (fun _ => pm_iconst (v := 1) (pc := 30) d_Mo_table_30 rfl) ?_
  refine px (fun _ => pm_iconst (v := 4) (pc := 31) d_Mo_table_31 rfl) ?_
  refine px (fun _ => k_Mo_table_32 (kc1 := 0) (ks1 := 0) (kc := 0) (ks := 0) (av := [.int (rw), .int (1), .int (4)]) (st := [.ref (95)]) H.1 (m_out_out hl H hr) rfl rfl (Nat.le_of_ble_eq_true rfl)) ?_
  refine pxn (fun _ => pm_if_ne (pc := 35) (tgt := 49) d_Mo_table_35 (by decide)) (fun c_4 => ?_) (fun c_4 => absurd c_4 (by decide))
  refine px (fun _ => pm_iconst (v := 1) (pc := 49) d_Mo_table_49 rfl) ?_
  refine px (fun _ => pm_goto (tgt := 54) (pc := 50) d_Mo_table_50 (by decide)) ?_
  refine px (fun _ => pm_putfC (c' := pm_Ob 4 [.ref (96), .ref (97), .ref (98), .ref (99), .ref (100), .ref (101), .ref (102), .ref (103), .ref (104), .ref (105), .ref (106), .ref (107), .ref (108), .ref (109), .int (nI (mG T 0)), .int (nI (mG T 1)), .int (nI (mG T 2)), .int (nI (mG T 3)), .int (nI (mG T 4)), .int (1), .int (nI (mG T 6))]) fp_Mo_57 (pc := 54) d_Mo_table_54 H.1 (Nat.le_of_ble_eq_true rfl) rfl rfl rfl) ?_
  have H_5 : mH (msG T 5 1) (h.set (95) (pm_Ob 4 [.ref (96), .ref (97), .ref (98), .ref (99), .ref (100), .ref (101), .ref (102), .ref (103), .ref (104), .ref (105), .ref (106), .ref (107), .ref (108), .ref (109), .int (nI (mG T 0)), .int (nI (mG T 1)), .int (nI (mG T 2)), .int (nI (mG T 3)), .int (nI (mG T 4)), .int (1), .int (nI (mG T 6))])) := H.G5 (v := 1)
  refine px (fun _ => pm_aload_n (pc := 57) d_Mo_table_57 rfl) ?_
  refine px (fun _ => pm_getf fl_Mo_57 (pc := 58) d_Mo_table_58 H_5.1 rfl) ?_
  refine pxb (fun _ => pm_if_eq (pc := 61) (tgt := 65) d_Mo_table_61 (by decide)) (fun c_6 => absurd c_6 (fun q => absurd (show nI 1 = 0 from q) (by decide))) (fun c_6 => ?_)
  exact pxr (pm_vret (pc := 64) d_Mo_table_64 rfl) ⟨rfl, H_5, (mFr.set _ _ (by omega))⟩
set_option maxHeartbeats 1000000 in
set_option maxRecDepth 20000 in
theorem m_table_b4 {l : Launch} {G : pm_G} {fi : Bool} {h : pm_H} {T : mS} {j : Nat} {ty rw cl kf : Int32} (hl : l.stackTraces = false) (H : mH T h) (hj : j < 20) (hk : nI (mA T 0 j) = 0) (ht : ¬ ty < 0 ∧ ¬ 1 < ty) (hr : ¬ rw < 1 ∧ ¬ 4 < rw) (hc : ¬ (¬ cl < 1 ∧ ¬ 4 < cl)) : pm_Cn l G fi fi 0 0 M_Mo_table [.ref (95), .int (nI j), .int (ty), .int (rw), .int (cl), .int (kf)] h (m_P none (msG T 5 1) h) := by
  refine pm_Cn.of hl (by decide) (Nat.le_of_ble_eq_true rfl) ?_
  refine px (fun _ => pm_aload_n (pc := 0) d_Mo_table_0 rfl) ?_
  refine px (fun _ => pm_aload_n (pc := 1) d_Mo_table_1 rfl) ?_
  refine px (fun _ => pm_iload_n (pc := 2) d_Mo_table_2 rfl) ?_
  refine px (fun _ => k_Mo_table_3 (kc1 := 0) (ks1 := 0) (kc := 0) (ks := 0) (av := [.int (nI j)]) (st := [.ref (95)]) H.1 (m_ns_in hl H hj) rfl rfl (Nat.le_of_ble_eq_true rfl)) ?_
  refine pxn (fun _ => pm_if_ne (pc := 6) (tgt := 49) d_Mo_table_6 (by decide)) (fun c_1 => absurd (by decide) c_1) (fun c_1 => ?_)
  refine px (fun _ => pm_aload_n (pc := 9) d_Mo_table_9 rfl) ?_
  refine px (fun _ => pm_getf fl_Mo_7 (pc := 10) d_Mo_table_10 H.1 rfl) ?_
  refine px (fun _ => pm_iload_n (pc := 13) d_Mo_table_13 rfl) ?_
  refine px (fun _ => pm_iald (j := j) (pc := 14) d_Mo_table_14 H.2.1 (rfl) (hj) (by decide)) ?_
  refine pxn (fun _ => pm_if_ne (pc := 15) (tgt := 49) d_Mo_table_15 (by decide)) (fun c_2 => absurd (hk) c_2) (fun c_2 => ?_)
  refine px (fun _ => pm_aload_n (pc := 18) d_Mo_table_18 rfl) ?_
  refine px (fun _ => pm_iload_n (pc := 19) d_Mo_table_19 rfl) ?_
  refine px (fun _ => pm_iconst (v := 0) (pc := 20) d_Mo_table_20 rfl) ?_
  refine px (fun _ => pm_iconst (v := 1) (pc := 21) d_Mo_table_21 rfl) ?_
  refine px (fun _ => k_Mo_table_22 (kc1 := 0) (ks1 := 0) (kc := 0) (ks := 0) (av := [.int (ty), .int (0), .int (1)]) (st := [.ref (95)]) H.1 (m_out_in hl H ht.1 ht.2) rfl rfl (Nat.le_of_ble_eq_true rfl)) ?_
  refine pxn (fun _ => pm_if_ne (pc := 25) (tgt := 49) d_Mo_table_25 (by decide)) (fun c_3 => absurd (by decide) c_3) (fun c_3 => ?_)
  refine px (fun _ => pm_aload_n (pc := 28) d_Mo_table_28 rfl) ?_
  refine px (fun _ => pm_iload_n (pc := 29) d_Mo_table_29 rfl) ?_
  refine px (fun _ => pm_iconst (v := 1) (pc := 30) d_Mo_table_30 rfl) ?_
  refine px (fun _ => pm_iconst (v := 4) (pc := 31) d_Mo_table_31 rfl) ?_
  refine px (fun _ => k_Mo_table_32 (kc1 := 0) (ks1 := 0) (kc := 0) (ks := 0) (av := [.int (rw), .int (1), .int (4)]) (st := [.ref (95)]) H.1 (m_out_in hl H hr.1 hr.2) rfl rfl (Nat.le_of_ble_eq_true rfl)) ?_
  refine pxn (fun _ => pm_if_ne (pc := 35) (tgt := 49) d_Mo_table_35 (by decide)) (fun c_4 => absurd (by decide) c_4) (fun c_4 => ?_)
  refine px (fun _ => pm_aload_n (pc := 38) d_Mo_table_38 rfl) ?_
  refine px (fun _ => pm_iload (pc := 39) d_Mo_table_39 rfl) ?_
  refine px (fun _ => pm_iconst (v := 1) (pc := 41) d_Mo_table_41 rfl) ?_
  refine px (fun _ => pm_iconst (v := 4) (pc := 42) d_Mo_table_42 rfl) ?_
  refine px (fun _ => k_Mo_table_43 (kc1 := 0) (ks1 := 0) (kc := 0) (ks := 0) (av := [.int (cl), .int (1), .int (4)]) (st := [.ref (95)]) H.1 (m_out_out hl H hc) rfl rfl (Nat.le_of_ble_eq_true rfl)) ?_
  refine pxb (fun _ => pm_if_eq (pc := 46) (tgt := 53) d_Mo_table_46 (by decide)) (fun c_5 => absurd c_5 (by decide)) (fun c_5 => ?_)
  refine px (fun _ => pm_iconst (v := 1) (pc := 49) d_Mo_table_49 rfl) ?_
  refine px (fun _ => pm_goto (tgt := 54) (pc := 50) d_Mo_table_50 (by decide)) ?_
  refine px (fun _ => pm_putfC (c' := pm_Ob 4 [.ref (96), .ref (97), .ref (98), .ref (99), .ref (100), .ref (101), .ref (102), .ref (103), .ref (104), .ref (105), .ref (106), .ref (107), .ref (108), .ref (109), .int (nI (mG T 0)), .int (nI (mG T 1)), .int (nI (mG T 2)), .int (nI (mG T 3)), .int (nI (mG T 4)), .int (1), .int (nI (mG T 6))]) fp_Mo_57 (pc := 54) d_Mo_table_54 H.1 (Nat.le_of_ble_eq_true rfl) rfl rfl rfl) ?_
  have H_6 : mH (msG T 5 1) (h.set (95) (pm_Ob 4 [.ref (96), .ref (97), .ref (98), .ref (99), .ref (100), .ref (101), .ref (102), .ref (103), .ref (104), .ref (105), .ref (106), .ref (107), .ref (108), .ref (109), .int (nI (mG T 0)), .int (nI (mG T 1)), .int (nI (mG T 2)), .int (nI (mG T 3)), .int (nI (mG T 4)), .int (1), .int (nI (mG T 6))])) := H.G5 (v := 1)
  refine px (fun _ => pm_aload_n (pc := 57) d_Mo_table_57 rfl) ?_
  refine px (fun _ => pm_getf fl_Mo_57 (pc := 58) d_Mo_table_58 H_6.1 rfl) ?_
  refine pxb (fun _ => pm_if_eq (pc := 61) (tgt := 65) d_Mo_table_61 (by decide)) (fun c_7 => absurd c_7 (fun q => absurd (show nI 1 = 0 from q) (by decide))) (fun c_7 => ?_)
  exact pxr (pm_vret (pc := 64) d_Mo_table_64 rfl) ⟨rfl, H_6, (mFr.set _ _ (by omega))⟩
theorem g_ty01 {x : Int32} (h : ¬ x < 0 ∧ ¬ 1 < x) : x = 0 ∨ x = 1 := by
  obtain ⟨j, hj, rfl⟩ := nI_of h.1
  have : ¬ 1 < j := fun q => h.2 ((nI_ltI (a := 1) (b := j) (by omega) hj).mpr q)
  have e : j = 0 ∨ j = 1 := by omega
  rcases e with rfl | rfl
  · exact Or.inl rfl
  · exact Or.inr rfl
theorem m_table_bad {l : Launch} {G : pm_G} {fi : Bool} {h : pm_H} {T : mS} {j : Nat} {ty rw cl kf : Int32} (hl : l.stackTraces = false) (H : mH T h) (hj : j < 20) (hk3 : mA T 0 j ≤ 3) (hb : ¬ (mA T 0 j = 0 ∧ (ty = 0 ∨ ty = 1) ∧ (¬ rw < 1 ∧ ¬ 4 < rw) ∧ (¬ cl < 1 ∧ ¬ 4 < cl))) : pm_Cn l G fi fi 0 0 M_Mo_table [.ref 95, .int (nI j), .int ty, .int rw, .int cl, .int kf] h (m_P none (msG T 5 1) h) := by
  by_cases hk : nI (mA T 0 j) = 0
  · by_cases ht : ¬ ty < 0 ∧ ¬ 1 < ty
    · by_cases hr : ¬ rw < 1 ∧ ¬ 4 < rw
      · by_cases hc : ¬ cl < 1 ∧ ¬ 4 < cl
        · exact absurd ⟨(nI_eq (a := mA T 0 j) (b := 0) (by omega) (by omega)).mp hk, g_ty01 ht, hr, hc⟩ hb
        · exact m_table_b4 hl H hj hk ht hr hc
      · exact m_table_b3 hl H hj hk ht hr
    · exact m_table_b2 hl H hj hk ht
  · exact m_table_b1 hl H hj hk
set_option maxHeartbeats 1000000 in
set_option maxRecDepth 20000 in
theorem m_undo_bad {l : Launch} {G : pm_G} {fi : Bool} {h : pm_H} {T : mS}  (hl : l.stackTraces = false) (H : mH T h) (hn : mG T 0 = 0) : pm_Cn l G fi fi 0 0 M_Mo_undo [.ref (95)] h (m_P none (msG T 5 1) h) := by
  refine pm_Cn.of hl (by decide) (Nat.le_of_ble_eq_true rfl) ?_
  refine px (fun _ => pm_aload_n (pc := 0) d_Mo_undo_0 rfl) ?_
  refine px (fun _ => pm_aload_n (pc := 1) d_Mo_undo_1 rfl) ?_
  refine px (fun _ => pm_getf fl_Mo_82 (pc := 2) d_Mo_undo_2 H.1 rfl) ?_
  refine pxn (fun _ => pm_if_ne (pc := 5) (tgt := 12) d_Mo_undo_5 (by decide)) (fun c_1 => absurd (by rw [hn]; rfl) c_1) (fun c_1 => ?_)
  refine px (fun _ => pm_iconst (v := 1) (pc := 8) d_Mo_undo_8 rfl) ?_
  refine px (fun _ => pm_goto (tgt := 13) (pc := 9) d_Mo_undo_9 (by decide)) ?_
  refine px (fun _ => pm_putfC (c' := pm_Ob 4 [.ref (96), .ref (97), .ref (98), .ref (99), .ref (100), .ref (101), .ref (102), .ref (103), .ref (104), .ref (105), .ref (106), .ref (107), .ref (108), .ref (109), .int (nI (mG T 0)), .int (nI (mG T 1)), .int (nI (mG T 2)), .int (nI (mG T 3)), .int (nI (mG T 4)), .int (1), .int (nI (mG T 6))]) fp_Mo_57 (pc := 13) d_Mo_undo_13 H.1 (Nat.le_of_ble_eq_true rfl) rfl rfl rfl) ?_
  have H_2 : mH (msG T 5 1) (h.set (95) (pm_Ob 4 [.ref (96), .ref (97), .ref (98), .ref (99), .ref (100), .ref (101), .ref (102), .ref (103), .ref (104), .ref (105), .ref (106), .ref (107), .ref (108), .ref (109), .int (nI (mG T 0)), .int (nI (mG T 1)), .int (nI (mG T 2)), .int (nI (mG T 3)), .int (nI (mG T 4)), .int (1), .int (nI (mG T 6))])) := H.G5 (v := 1)
  refine px (fun _ => pm_aload_n (pc := 16) d_Mo_undo_16 rfl) ?_
  refine px (fun _ => pm_getf fl_Mo_57 (pc := 17) d_Mo_undo_17 H_2.1 rfl) ?_
  refine pxb (fun _ => pm_if_eq (pc := 20) (tgt := 24) d_Mo_undo_20 (by decide)) (fun c_3 => absurd c_3 (fun q => absurd (show nI 1 = 0 from q) (by decide))) (fun c_3 => ?_)
  exact pxr (pm_vret (pc := 23) d_Mo_undo_23 rfl) ⟨rfl, H_2, (mFr.set _ _ (by omega))⟩
set_option maxHeartbeats 1000000 in
set_option maxRecDepth 20000 in
theorem m_undo_ok {l : Launch} {G : pm_G} {fi : Bool} {h : pm_H} {T : mS}  (hl : l.stackTraces = false) (H : mH T h) (hn0 : 0 < mG T 0) (hn : mG T 0 ≤ 14) (ho : mA T 7 (mG T 0 - 1) < 20) : pm_Cn l G fi fi 0 0 M_Mo_undo [.ref (95)] h (m_P none (mChg (msA (msG (msG T 5 0) 0 (mG T 0 - 1)) 0 (mA T 7 (mG T 0 - 1)) 0)) h) := by
  refine pm_Cn.of hl (by decide) (Nat.le_of_ble_eq_true rfl) ?_
  refine px (fun _ => pm_aload_n (pc := 0) d_Mo_undo_0 rfl) ?_
  refine px (fun _ => pm_aload_n (pc := 1) d_Mo_undo_1 rfl) ?_
  refine px (fun _ => pm_getf fl_Mo_82 (pc := 2) d_Mo_undo_2 H.1 rfl) ?_
  refine pxn (fun _ => pm_if_ne (pc := 5) (tgt := 12) d_Mo_undo_5 (by decide)) (fun c_1 => ?_) (fun c_1 => absurd c_1 (nI_ne0 hn0 (by omega)))
  refine px (fun _ => pm_iconst (v := 0) (pc := 12) d_Mo_undo_12 rfl) ?_
  refine px (fun _ => pm_putfC (c' := pm_Ob 4 [.ref (96), .ref (97), .ref (98), .ref (99), .ref (100), .ref (101), .ref (102), .ref (103), .ref (104), .ref (105), .ref (106), .ref (107), .ref (108), .ref (109), .int (nI (mG T 0)), .int (nI (mG T 1)), .int (nI (mG T 2)), .int (nI (mG T 3)), .int (nI (mG T 4)), .int (0), .int (nI (mG T 6))]) fp_Mo_57 (pc := 13) d_Mo_undo_13 H.1 (Nat.le_of_ble_eq_true rfl) rfl rfl rfl) ?_
  have H_2 : mH (msG T 5 0) (h.set (95) (pm_Ob 4 [.ref (96), .ref (97), .ref (98), .ref (99), .ref (100), .ref (101), .ref (102), .ref (103), .ref (104), .ref (105), .ref (106), .ref (107), .ref (108), .ref (109), .int (nI (mG T 0)), .int (nI (mG T 1)), .int (nI (mG T 2)), .int (nI (mG T 3)), .int (nI (mG T 4)), .int (0), .int (nI (mG T 6))])) := H.G5 (v := 0)
  refine px (fun _ => pm_aload_n (pc := 16) d_Mo_undo_16 rfl) ?_
  refine px (fun _ => pm_getf fl_Mo_57 (pc := 17) d_Mo_undo_17 H_2.1 rfl) ?_
  refine pxb (fun _ => pm_if_eq (pc := 20) (tgt := 24) d_Mo_undo_20 (by decide)) (fun c_3 => ?_) (fun c_3 => absurd (rfl) c_3)
  refine px (fun _ => pm_aload_n (pc := 24) d_Mo_undo_24 rfl) ?_
  refine px (fun _ => pm_dup (pc := 25) d_Mo_undo_25 rfl) ?_
  refine px (fun _ => pm_getf fl_Mo_82 (pc := 26) d_Mo_undo_26 H_2.1 rfl) ?_
  refine px (fun _ => pm_iconst (v := 1) (pc := 29) d_Mo_undo_29 rfl) ?_
  refine px (fun _ => pm_isubN (a := (mG (msG T 5 0) 0)) (b := 1) (pc := 30) d_Mo_undo_30 (show 1 ≤ mG T 0 from hn0)) ?_
  refine px (fun _ => pm_putfC (c' := pm_Ob 4 [.ref (96), .ref (97), .ref (98), .ref (99), .ref (100), .ref (101), .ref (102), .ref (103), .ref (104), .ref (105), .ref (106), .ref (107), .ref (108), .ref (109), .int (nI ((mG (msG T 5 0) 0) - 1)), .int (nI (mG (msG T 5 0) 1)), .int (nI (mG (msG T 5 0) 2)), .int (nI (mG (msG T 5 0) 3)), .int (nI (mG (msG T 5 0) 4)), .int (nI (mG (msG T 5 0) 5)), .int (nI (mG (msG T 5 0) 6))]) fp_Mo_82 (pc := 31) d_Mo_undo_31 H_2.1 (Nat.le_of_ble_eq_true rfl) rfl rfl rfl) ?_
  have H_4 : mH (msG (msG T 5 0) 0 (((mG (msG T 5 0) 0) - 1))) ((h.set (95) (pm_Ob 4 [.ref (96), .ref (97), .ref (98), .ref (99), .ref (100), .ref (101), .ref (102), .ref (103), .ref (104), .ref (105), .ref (106), .ref (107), .ref (108), .ref (109), .int (nI (mG T 0)), .int (nI (mG T 1)), .int (nI (mG T 2)), .int (nI (mG T 3)), .int (nI (mG T 4)), .int (0), .int (nI (mG T 6))])).set (95) (pm_Ob 4 [.ref (96), .ref (97), .ref (98), .ref (99), .ref (100), .ref (101), .ref (102), .ref (103), .ref (104), .ref (105), .ref (106), .ref (107), .ref (108), .ref (109), .int (nI ((mG (msG T 5 0) 0) - 1)), .int (nI (mG (msG T 5 0) 1)), .int (nI (mG (msG T 5 0) 2)), .int (nI (mG (msG T 5 0) 3)), .int (nI (mG (msG T 5 0) 4)), .int (nI (mG (msG T 5 0) 5)), .int (nI (mG (msG T 5 0) 6))])) := H_2.G0 (v := ((mG (msG T 5 0) 0) - 1))
  refine px (fun _ => pm_aload_n (pc := 34) d_Mo_undo_34 rfl) ?_
  refine px (fun _ => pm_getf fl_Mo_7 (pc := 35) d_Mo_undo_35 H_4.1 rfl) ?_
  refine px (fun _ => pm_aload_n (pc := 38) d_Mo_undo_38 rfl) ?_
  refine px (fun _ => pm_getf fl_Mo_32 (pc := 39) d_Mo_undo_39 H_4.1 rfl) ?_
  refine px (fun _ => pm_aload_n (pc := 42) d_Mo_undo_42 rfl) ?_
  refine px (fun _ => pm_getf fl_Mo_82 (pc := 43) d_Mo_undo_43 H_4.1 rfl) ?_
  refine px (fun _ => pm_iald (j := mG T 0 - 1) (pc := 46) d_Mo_undo_46 H_4.2.2.2.2.2.2.2.2.1 (rfl) (by omega) (by decide)) ?_
  refine px (fun _ => pm_iconst (v := 0) (pc := 47) d_Mo_undo_47 rfl) ?_
  refine px (fun _ => pm_iast (j := mA T 7 (mG T 0 - 1)) (pc := 48) d_Mo_undo_48 H_4.2.1 (rfl) (ho) (by decide)) ?_
  have H_5 : mH (msA (msG (msG T 5 0) 0 (((mG (msG T 5 0) 0) - 1))) 0 (mA T 7 (mG T 0 - 1)) 0) (((h.set (95) (pm_Ob 4 [.ref (96), .ref (97), .ref (98), .ref (99), .ref (100), .ref (101), .ref (102), .ref (103), .ref (104), .ref (105), .ref (106), .ref (107), .ref (108), .ref (109), .int (nI (mG T 0)), .int (nI (mG T 1)), .int (nI (mG T 2)), .int (nI (mG T 3)), .int (nI (mG T 4)), .int (0), .int (nI (mG T 6))])).set (95) (pm_Ob 4 [.ref (96), .ref (97), .ref (98), .ref (99), .ref (100), .ref (101), .ref (102), .ref (103), .ref (104), .ref (105), .ref (106), .ref (107), .ref (108), .ref (109), .int (nI ((mG (msG T 5 0) 0) - 1)), .int (nI (mG (msG T 5 0) 1)), .int (nI (mG (msG T 5 0) 2)), .int (nI (mG (msG T 5 0) 3)), .int (nI (mG (msG T 5 0) 4)), .int (nI (mG (msG T 5 0) 5)), .int (nI (mG (msG T 5 0) 6))])).set (96) (pm_I 20 (va_up (fun j => nI (mA (msG (msG T 5 0) 0 (((mG (msG T 5 0) 0) - 1))) 0 j)) (mA T 7 (mG T 0 - 1)) (0)))) := H_4.A0 (j := mA T 7 (mG T 0 - 1)) (v := 0)
  refine px (fun _ => pm_aload_n (pc := 49) d_Mo_undo_49 rfl) ?_
  obtain ⟨⟨o6, h6⟩, ⟨e6, H6, F6⟩, en6⟩ := m_change (l := l) (G := G) (fi := fi) (T := msA (msG (msG T 5 0) 0 (((mG (msG T 5 0) 0) - 1))) 0 (mA T 7 (mG T 0 - 1)) 0) hl H_5
  dsimp only at e6 H6 F6
  subst e6
  refine px (fun _ => k_Mo_undo_50 (kc1 := 0) (ks1 := 0) (kc := 0) (ks := 0) (av := []) (st := []) H_5.1 (en6) rfl rfl (Nat.le_of_ble_eq_true rfl)) ?_
  exact pxr (pm_vret (pc := 53) d_Mo_undo_53 rfl) ⟨rfl, H6, ((mFr.set _ _ (by omega))).tr (((mFr.set _ _ (by omega))).tr (((mFr.set _ _ (by omega))).tr (F6)))⟩
