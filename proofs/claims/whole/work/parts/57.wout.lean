/-! ===== the class: workOut of a node ===== -/
abbrev g_En (S : gS) (n : Nat) : Nat → Nat → UInt64 := g_E S n (g_as S n 0) (g_as S n 1) (g_as S n 2)
abbrev g_wkn (S : gS) (n : Nat) : Prop := g_wok S n (g_as S n 0) (g_as S n 1) (gT S (gN S n 2) 1) (gT S (gN S n 2) 2)
abbrev g_tbn (S : gS) (n : Nat) : Prop := gT S (gN S n 2) 0 = 0 ∧ ∃ x y, x < gT S (gN S n 2) 1 ∧ y < gT S (gN S n 2) 2 ∧ g_big (g_En S n x y)
/-- how working node n out ends: 0 fine, 1 not reckoned, 2 no such row -/
def g_end (S : gS) (n e : Nat) : Prop := (g_wkn S n ∧ ¬ g_tbn S n ∧ e = 0) ∨ (g_wkn S n ∧ g_tbn S n ∧ e = 1) ∨ (¬ g_wkn S n ∧ e = if gN S n 1 = 3 then 1 else 2)
/-- what must stand for a node to be worked out: its arguments are no outcome of its own, its outcome has its shape, what is read is bounded -/
def g_pre (S : gS) (n : Nat) : Prop := (∀ k, k < gN S n 0 → g_as S n k ≠ gN S n 2) ∧ g_fn S n = some (gT S (gN S n 2) 0, gT S (gN S n 2) 1, gT S (gN S n 2) 2) ∧ (¬ gN S n 1 = 17 → ∀ k, k < gN S n 0 → gBt S (g_as S n k))
abbrev g_PG (S : gS) (n : Nat) (h : pm_H) : pm_O × pm_H → Prop := fun r => ∃ f e, gH (gsC S (gN S n 2) f) r.2 ∧ gFr h r.2 ∧ r.1 = .inl (some (.int (nI e))) ∧ g_end S n e ∧ (e = 0 → g_inv (g_En S n) (gT S (gN S n 2) 2) f (gT S (gN S n 2) 1) 0)
set_option maxHeartbeats 4000000 in
set_option maxRecDepth 20000 in
theorem c_workOut {l : Launch} {G : pm_G} {fi : Bool} {h : pm_H} {S : gS} {n : Nat} (hl : l.stackTraces = false) (H : gH S h) (hW : gW S) (hV : gV S) (hU : gU S) (x1 : n < gG S 0) (hP : g_pre S n) : pm_Cn l G fi fi 0 0 M_Gr_workOut [.ref (0), .ref (67 + 2 * n)] h (g_PG S n h) := by
  refine pm_Cn.of hl (by decide) (Nat.le_of_ble_eq_true rfl) ?_
  have b1 := hW.1
  have hn : n < 14 := by omega
  have bn := hW.2.2.2.2.2 n hn
  have hu := hU n x1
  obtain ⟨x2, hs, hB⟩ := hP
  have ho : gN S n 2 < 20 := bn.2.2.1
  have ar := g_ar_ok (gN S n 1) (by omega)
  have a0 := hV n x1 0 (by omega)
  have K := c_work (l := l) (G := G) (fi := fi) (a := g_as S n 0) (b := g_as S n 1) (c := g_as S n 2) (o9 := gN S n 2) (xb := g_rf S n 1) (xc := g_rf S n 2) hl H hW hn ho a0.2 (x2 0 (by omega)) (fun q => ⟨by simp only [g_rf]; rw [if_pos (by omega)], (hV n x1 1 (by omega)).2, x2 1 (by omega)⟩) (fun q => ⟨by simp only [g_rf]; rw [if_pos (by omega)], (hV n x1 2 (by omega)).2, x2 2 (by omega)⟩) hs (fun q => ⟨hB q 0 (by omega), fun q2 => hB q 1 (by omega)⟩)
  have hrf : g_rf S n 0 = 8 + 3 * g_as S n 0 := by simp only [g_rf]; rw [if_pos (by omega)]
  rw [← hrf] at K
  refine px (fun _ => pm_aload_n (pc := 0) d_Gr_workOut_0 rfl) ?_
  refine px (fun _ => pm_getf fl_Gr_11 (pc := 1) d_Gr_workOut_1 H.1 rfl) ?_
  refine px (fun _ => pm_aload_n (pc := 4) d_Gr_workOut_4 rfl) ?_
  refine px (fun _ => pm_getf fl_Gr_131 (pc := 5) d_Gr_workOut_5 (H.2.2.2.2.2.2.2 n hn).1 rfl) ?_
  obtain ⟨f_1, hf_2, gf_3⟩ := id H.2.1
  refine px (fun _ => pm_aald (kd := 3) (Cn := "GraphRunner$Slot") (j := gN S n 2) (pc := 8) d_Gr_workOut_8 (fun _ => rfl) hf_2 (rfl) (ho) (by decide) (gf_3 (gN S n 2) ho)) ?_
  refine px (fun _ => pm_getf fl_Gr_67 (pc := 9) d_Gr_workOut_9 (H.2.2.2.2.2.2.1 (gN S n 2) ho).1 rfl) ?_
  refine px (fun _ => pm_astore_n (lv' := [(2, .ref (8 + 3 * gN S n 2)), (0, .ref (0)), (1, .ref (67 + 2 * n))]) (pc := 12) d_Gr_workOut_12 (by decide) rfl) ?_
  refine px (fun _ => pm_aload_n (pc := 13) d_Gr_workOut_13 rfl) ?_
  refine px (fun _ => pm_aload_n (pc := 14) d_Gr_workOut_14 rfl) ?_
  refine px (fun _ => pm_aload_n (pc := 15) d_Gr_workOut_15 rfl) ?_
  refine px (fun _ => pm_iconst (v := 0) (pc := 16) d_Gr_workOut_16 rfl) ?_
  refine px (fun _ => k_Gr_workOut_17 (kc1 := 0) (ks1 := 0) (kc := 0) (ks := 0) (av := [.ref (67 + 2 * n), .int (0)]) (st := [.ref (67 + 2 * n)]) H.1 (c_arg (k := 0) hl H hW hV hn x1 (by omega)) rfl rfl (Nat.le_of_ble_eq_true rfl)) ?_
  refine px (fun _ => pm_aload_n (pc := 20) d_Gr_workOut_20 rfl) ?_
  refine px (fun _ => pm_aload_n (pc := 21) d_Gr_workOut_21 rfl) ?_
  refine px (fun _ => pm_iconst (v := 1) (pc := 22) d_Gr_workOut_22 rfl) ?_
  refine px (fun _ => k_Gr_workOut_23 (kc1 := 0) (ks1 := 0) (kc := 0) (ks := 0) (av := [.ref (67 + 2 * n), .int (1)]) (st := [.ref (g_rf S n 0), .ref (67 + 2 * n)]) H.1 (c_arg (k := 1) hl H hW hV hn x1 (by omega)) rfl rfl (Nat.le_of_ble_eq_true rfl)) ?_
  refine px (fun _ => pm_aload_n (pc := 26) d_Gr_workOut_26 rfl) ?_
  refine px (fun _ => pm_aload_n (pc := 27) d_Gr_workOut_27 rfl) ?_
  refine px (fun _ => pm_iconst (v := 2) (pc := 28) d_Gr_workOut_28 rfl) ?_
  refine px (fun _ => k_Gr_workOut_29 (kc1 := 0) (ks1 := 0) (kc := 0) (ks := 0) (av := [.ref (67 + 2 * n), .int (2)]) (st := [.ref (g_rf S n 1), .ref (g_rf S n 0), .ref (67 + 2 * n)]) H.1 (c_arg (k := 2) hl H hW hV hn x1 (by omega)) rfl rfl (Nat.le_of_ble_eq_true rfl)) ?_
  refine px (fun _ => pm_aload_n (pc := 32) d_Gr_workOut_32 rfl) ?_
  obtain ⟨⟨o7, h7⟩, ⟨f7, H7, F7, p7⟩, en7⟩ := K
  dsimp only at H7 F7 p7
  rcases p7 with ⟨e7, wk, iv⟩ | ⟨e7, nw⟩
  · subst e7
    refine px (fun _ => k_Gr_workOut_33 (kc1 := 0) (ks1 := 0) (kc := 0) (ks := 0) (av := [.ref (67 + 2 * n), .ref (g_rf S n 0), .ref (g_rf S n 1), .ref (g_rf S n 2), .ref (8 + 3 * gN S n 2)]) (st := []) (en7) rfl rfl (Nat.le_of_ble_eq_true rfl)) ?_
    refine px (fun _ => pm_istore_n (lv' := [(3, .int (0)), (2, .ref (8 + 3 * gN S n 2)), (0, .ref (0)), (1, .ref (67 + 2 * n))]) (pc := 36) d_Gr_workOut_36 (by decide) rfl) ?_
    refine px (fun _ => pm_iload_n (pc := 37) d_Gr_workOut_37 rfl) ?_
    refine pxn (fun _ => pm_if_ne (pc := 38) (tgt := 52) d_Gr_workOut_38 (by decide)) (fun c_4 => absurd (by decide) c_4) (fun c_4 => ?_)
    refine px (fun _ => pm_aload_n (pc := 41) d_Gr_workOut_41 rfl) ?_
    obtain ⟨⟨o8, h8⟩, ⟨H8, F8, p8⟩, en8⟩ := c_big (l := l) (G := G) (fi := fi) hl H7 hW.C ho
    dsimp only at H8 F8 p8
    rw [gC_s] at p8
    rcases p8 with ⟨e8, p8⟩ | ⟨e8, p8⟩
    · subst e8
      refine px (fun _ => k_Gr_workOut_42 (kc1 := 0) (ks1 := 0) (kc := 0) (ks := 0) (av := []) (st := []) (H7.2.2.2.2.2.2.1 (gN S n 2) ho).2.1 (en8) rfl rfl (Nat.le_of_ble_eq_true rfl)) ?_
      refine pxb (fun _ => pm_if_eq (pc := 45) (tgt := 52) d_Gr_workOut_45 (by decide)) (fun c_5 => ?_) (fun c_5 => absurd (by decide) c_5)
      refine px (fun _ => pm_iload_n (pc := 52) d_Gr_workOut_52 rfl) ?_
      exact pxr (pm_iret (pc := 53) d_Gr_workOut_53 rfl rfl) ⟨f7, 0, H8, F7.tr F8, rfl, Or.inl ⟨wk, fun t => by obtain ⟨t0, x, y, hx, hy, hb⟩ := t; have e9 : f7 (x * 4 + y) = g_En S n x y := iv x y hy (Or.inl hx); rw [← e9] at hb; exact p8 t0 x y hx hy hb, rfl⟩, fun _ => iv⟩
    · subst e8
      refine px (fun _ => k_Gr_workOut_42 (kc1 := 0) (ks1 := 0) (kc := 0) (ks := 0) (av := []) (st := []) (H7.2.2.2.2.2.2.1 (gN S n 2) ho).2.1 (en8) rfl rfl (Nat.le_of_ble_eq_true rfl)) ?_
      refine pxb (fun _ => pm_if_eq (pc := 45) (tgt := 52) d_Gr_workOut_45 (by decide)) (fun c_6 => absurd c_6 (by decide)) (fun c_6 => ?_)
      refine px (fun _ => pm_iconst (v := 1) (pc := 48) d_Gr_workOut_48 rfl) ?_
      refine px (fun _ => pm_goto (tgt := 53) (pc := 49) d_Gr_workOut_49 (by decide)) ?_
      exact pxr (pm_iret (pc := 53) d_Gr_workOut_53 rfl rfl) ⟨f7, 1, H8, F7.tr F8, rfl, Or.inr (Or.inl ⟨wk, by obtain ⟨t0, x, y, hx, hy, hb⟩ := p8; have e9 : f7 (x * 4 + y) = g_En S n x y := iv x y hy (Or.inl hx); rw [e9] at hb; exact ⟨t0, x, y, hx, hy, hb⟩, rfl⟩), fun q => by omega⟩
  · subst e7
    refine px (fun _ => k_Gr_workOut_33 (kc1 := 0) (ks1 := 0) (kc := 0) (ks := 0) (av := [.ref (67 + 2 * n), .ref (g_rf S n 0), .ref (g_rf S n 1), .ref (g_rf S n 2), .ref (8 + 3 * gN S n 2)]) (st := []) (en7) rfl rfl (Nat.le_of_ble_eq_true rfl)) ?_
    refine px (fun _ => pm_istore_n (lv' := [(3, .int (if gN S n 1 = 3 then 1 else 2)), (2, .ref (8 + 3 * gN S n 2)), (0, .ref (0)), (1, .ref (67 + 2 * n))]) (pc := 36) d_Gr_workOut_36 (by decide) rfl) ?_
    refine px (fun _ => pm_iload_n (pc := 37) d_Gr_workOut_37 rfl) ?_
    refine pxn (fun _ => pm_if_ne (pc := 38) (tgt := 52) d_Gr_workOut_38 (by decide)) (fun c_7 => ?_) (fun c_7 => absurd c_7 (by split <;> decide))
    refine px (fun _ => pm_iload_n (pc := 52) d_Gr_workOut_52 rfl) ?_
    exact pxr (pm_iret (pc := 53) d_Gr_workOut_53 rfl rfl) ⟨f7, if gN S n 1 = 3 then 1 else 2, H7, F7, by split <;> rfl, Or.inr (Or.inr ⟨nw, rfl⟩), fun q => by split at q <;> omega⟩
