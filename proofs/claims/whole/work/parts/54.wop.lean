/-! ===== the class: Work.workOut, an operator each ===== -/
abbrev g_P0 (S : gS) (o9 : Nat) (h : pm_H) (E : Nat → Nat → UInt64) : pm_O × pm_H → Prop := fun r => ∃ f, gH (gsC S o9 f) r.2 ∧ gFr h r.2 ∧ r.1 = .inl (some (.int 0)) ∧ g_inv E (gT S o9 2) f (gT S o9 1) 0
set_option maxHeartbeats 4000000 in
set_option maxRecDepth 20000 in
theorem x_0 {l : Launch} {G : pm_G} {fi : Bool} {h : pm_H} {S : gS} {a b o9 n xc : Nat} (hl : l.stackTraces = false) (H : gH S h) (hW : gW S) (hn : n < 14) (ho : o9 < 20) (ha : a < 20) (na : a ≠ o9) (hb : b < 20) (nb : b ≠ o9) (hop : gN S n 1 = 0)  (hne : ∀ x y, x < gT S o9 1 → y < gT S o9 2 → ¬ gT S a 0 = 1 → vf_n64 (FP.dadd (g_ag S a x y) (g_ag S b x y))) : pm_Cn l G fi fi 0 0 M_Wk_workOut [.ref (67 + 2 * n), .ref (8 + 3 * a), .ref (8 + 3 * b), .ref (xc), .ref (8 + 3 * o9)] h (g_P0 S o9 h (fun x y => if gT S a 0 = 1 then FP.i2d (g_pi 0 (FP.d2i (g_ag S a x y)) (FP.d2i (g_ag S b x y))) else g_pf 0 (g_ag S a x y) (g_ag S b x y))) := by
  refine pm_Cn.of hl (by decide) (Nat.le_of_ble_eq_true rfl) ?_
  have bo := hW.2.2.2.2.1 o9 ho
  have ba := hW.2.2.2.2.1 a ha
  refine px (fun _ => pm_aload_n (pc := 0) d_Wk_workOut_0 rfl) ?_
  refine px (fun _ => pm_getf fl_Wk_9 (pc := 1) d_Wk_workOut_1 (H.2.2.2.2.2.2.2 n hn).1 rfl) ?_
  refine px (fun _ => pm_tabOut (tgt := 268) (pc := 4) d_Wk_workOut_4 (Or.inl (by rw [hop]; decide)) (by decide)) ?_
  refine px (fun _ => pm_aload_n (pc := 268) d_Wk_workOut_268 rfl) ?_
  refine px (fun _ => pm_getf fl_Wk_9 (pc := 269) d_Wk_workOut_269 (H.2.2.2.2.2.2.2 n hn).1 rfl) ?_
  refine px (fun _ => pm_aload_n (pc := 272) d_Wk_workOut_272 rfl) ?_
  refine px (fun _ => pm_aload_n (pc := 273) d_Wk_workOut_273 rfl) ?_
  refine px (fun _ => pm_aload (pc := 274) d_Wk_workOut_274 rfl) ?_
  rw [hop]
  obtain ⟨⟨o7, h7⟩, ⟨e7, f7, H7, F7, iv7⟩, en7⟩ := w_pair0 (l := l) (G := G) (fi := fi) hl H hW ho ha na hb nb hne
  dsimp only at e7 H7 F7
  subst e7
  refine px (fun _ => k_Wk_workOut_276 (kc1 := 0) (ks1 := 0) (kc := 0) (ks := 0) (av := [.int (0), .ref (8 + 3 * a), .ref (8 + 3 * b), .ref (8 + 3 * o9)]) (st := []) (en7) rfl rfl (Nat.le_of_ble_eq_true rfl)) ?_
  refine px (fun _ => pm_iconst (v := 0) (pc := 279) d_Wk_workOut_279 rfl) ?_
  exact pxr (pm_iret (pc := 280) d_Wk_workOut_280 rfl rfl) ⟨f7, H7, F7, rfl, iv7⟩
set_option maxHeartbeats 4000000 in
set_option maxRecDepth 20000 in
theorem x_1 {l : Launch} {G : pm_G} {fi : Bool} {h : pm_H} {S : gS} {a b o9 n xc : Nat} (hl : l.stackTraces = false) (H : gH S h) (hW : gW S) (hn : n < 14) (ho : o9 < 20) (ha : a < 20) (na : a ≠ o9) (hb : b < 20) (nb : b ≠ o9) (hop : gN S n 1 = 1)  (hne : ∀ x y, x < gT S o9 1 → y < gT S o9 2 → ¬ gT S a 0 = 1 → vf_n64 (FP.dsub (g_ag S a x y) (g_ag S b x y))) : pm_Cn l G fi fi 0 0 M_Wk_workOut [.ref (67 + 2 * n), .ref (8 + 3 * a), .ref (8 + 3 * b), .ref (xc), .ref (8 + 3 * o9)] h (g_P0 S o9 h (fun x y => if gT S a 0 = 1 then FP.i2d (g_pi 1 (FP.d2i (g_ag S a x y)) (FP.d2i (g_ag S b x y))) else g_pf 1 (g_ag S a x y) (g_ag S b x y))) := by
  refine pm_Cn.of hl (by decide) (Nat.le_of_ble_eq_true rfl) ?_
  have bo := hW.2.2.2.2.1 o9 ho
  have ba := hW.2.2.2.2.1 a ha
  refine px (fun _ => pm_aload_n (pc := 0) d_Wk_workOut_0 rfl) ?_
  refine px (fun _ => pm_getf fl_Wk_9 (pc := 1) d_Wk_workOut_1 (H.2.2.2.2.2.2.2 n hn).1 rfl) ?_
  refine px (fun _ => pm_tabOut (tgt := 268) (pc := 4) d_Wk_workOut_4 (Or.inl (by rw [hop]; decide)) (by decide)) ?_
  refine px (fun _ => pm_aload_n (pc := 268) d_Wk_workOut_268 rfl) ?_
  refine px (fun _ => pm_getf fl_Wk_9 (pc := 269) d_Wk_workOut_269 (H.2.2.2.2.2.2.2 n hn).1 rfl) ?_
  refine px (fun _ => pm_aload_n (pc := 272) d_Wk_workOut_272 rfl) ?_
  refine px (fun _ => pm_aload_n (pc := 273) d_Wk_workOut_273 rfl) ?_
  refine px (fun _ => pm_aload (pc := 274) d_Wk_workOut_274 rfl) ?_
  rw [hop]
  obtain ⟨⟨o7, h7⟩, ⟨e7, f7, H7, F7, iv7⟩, en7⟩ := w_pair1 (l := l) (G := G) (fi := fi) hl H hW ho ha na hb nb hne
  dsimp only at e7 H7 F7
  subst e7
  refine px (fun _ => k_Wk_workOut_276 (kc1 := 0) (ks1 := 0) (kc := 0) (ks := 0) (av := [.int (1), .ref (8 + 3 * a), .ref (8 + 3 * b), .ref (8 + 3 * o9)]) (st := []) (en7) rfl rfl (Nat.le_of_ble_eq_true rfl)) ?_
  refine px (fun _ => pm_iconst (v := 0) (pc := 279) d_Wk_workOut_279 rfl) ?_
  exact pxr (pm_iret (pc := 280) d_Wk_workOut_280 rfl rfl) ⟨f7, H7, F7, rfl, iv7⟩
set_option maxHeartbeats 4000000 in
set_option maxRecDepth 20000 in
theorem x_2 {l : Launch} {G : pm_G} {fi : Bool} {h : pm_H} {S : gS} {a b o9 n xc : Nat} (hl : l.stackTraces = false) (H : gH S h) (hW : gW S) (hn : n < 14) (ho : o9 < 20) (ha : a < 20) (na : a ≠ o9) (hb : b < 20) (nb : b ≠ o9) (hop : gN S n 1 = 2)  (hne : ∀ x y, x < gT S o9 1 → y < gT S o9 2 → ¬ gT S a 0 = 1 → vf_n64 (FP.dmul (g_ag S a x y) (g_ag S b x y))) : pm_Cn l G fi fi 0 0 M_Wk_workOut [.ref (67 + 2 * n), .ref (8 + 3 * a), .ref (8 + 3 * b), .ref (xc), .ref (8 + 3 * o9)] h (g_P0 S o9 h (fun x y => if gT S a 0 = 1 then FP.i2d (g_pi 2 (FP.d2i (g_ag S a x y)) (FP.d2i (g_ag S b x y))) else g_pf 2 (g_ag S a x y) (g_ag S b x y))) := by
  refine pm_Cn.of hl (by decide) (Nat.le_of_ble_eq_true rfl) ?_
  have bo := hW.2.2.2.2.1 o9 ho
  have ba := hW.2.2.2.2.1 a ha
  refine px (fun _ => pm_aload_n (pc := 0) d_Wk_workOut_0 rfl) ?_
  refine px (fun _ => pm_getf fl_Wk_9 (pc := 1) d_Wk_workOut_1 (H.2.2.2.2.2.2.2 n hn).1 rfl) ?_
  refine px (fun _ => pm_tabOut (tgt := 268) (pc := 4) d_Wk_workOut_4 (Or.inl (by rw [hop]; decide)) (by decide)) ?_
  refine px (fun _ => pm_aload_n (pc := 268) d_Wk_workOut_268 rfl) ?_
  refine px (fun _ => pm_getf fl_Wk_9 (pc := 269) d_Wk_workOut_269 (H.2.2.2.2.2.2.2 n hn).1 rfl) ?_
  refine px (fun _ => pm_aload_n (pc := 272) d_Wk_workOut_272 rfl) ?_
  refine px (fun _ => pm_aload_n (pc := 273) d_Wk_workOut_273 rfl) ?_
  refine px (fun _ => pm_aload (pc := 274) d_Wk_workOut_274 rfl) ?_
  rw [hop]
  obtain ⟨⟨o7, h7⟩, ⟨e7, f7, H7, F7, iv7⟩, en7⟩ := w_pair2 (l := l) (G := G) (fi := fi) hl H hW ho ha na hb nb hne
  dsimp only at e7 H7 F7
  subst e7
  refine px (fun _ => k_Wk_workOut_276 (kc1 := 0) (ks1 := 0) (kc := 0) (ks := 0) (av := [.int (2), .ref (8 + 3 * a), .ref (8 + 3 * b), .ref (8 + 3 * o9)]) (st := []) (en7) rfl rfl (Nat.le_of_ble_eq_true rfl)) ?_
  refine px (fun _ => pm_iconst (v := 0) (pc := 279) d_Wk_workOut_279 rfl) ?_
  exact pxr (pm_iret (pc := 280) d_Wk_workOut_280 rfl rfl) ⟨f7, H7, F7, rfl, iv7⟩
set_option maxHeartbeats 4000000 in
set_option maxRecDepth 20000 in
theorem x_8 {l : Launch} {G : pm_G} {fi : Bool} {h : pm_H} {S : gS} {a b o9 n xc : Nat} (hl : l.stackTraces = false) (H : gH S h) (hW : gW S) (hn : n < 14) (ho : o9 < 20) (ha : a < 20) (na : a ≠ o9) (hb : b < 20) (nb : b ≠ o9) (hop : gN S n 1 = 8)  : pm_Cn l G fi fi 0 0 M_Wk_workOut [.ref (67 + 2 * n), .ref (8 + 3 * a), .ref (8 + 3 * b), .ref (xc), .ref (8 + 3 * o9)] h (g_P0 S o9 h (fun x y => if gT S a 0 = 1 then FP.i2d (g_pi 8 (FP.d2i (g_ag S a x y)) (FP.d2i (g_ag S b x y))) else g_pf 8 (g_ag S a x y) (g_ag S b x y))) := by
  refine pm_Cn.of hl (by decide) (Nat.le_of_ble_eq_true rfl) ?_
  have bo := hW.2.2.2.2.1 o9 ho
  have ba := hW.2.2.2.2.1 a ha
  refine px (fun _ => pm_aload_n (pc := 0) d_Wk_workOut_0 rfl) ?_
  refine px (fun _ => pm_getf fl_Wk_9 (pc := 1) d_Wk_workOut_1 (H.2.2.2.2.2.2.2 n hn).1 rfl) ?_
  have tx_4 : (nI (gN S n 1) : Int32).toInt = 8 := by rw [hop]; rfl
  refine px (fun _ => pm_tabIn (off := 264) (tgt := 268) (pc := 4) d_Wk_workOut_4 (by rw [tx_4]; decide) (by rw [tx_4]; decide) (by rw [tx_4]; rfl) (by decide)) ?_
  refine px (fun _ => pm_aload_n (pc := 268) d_Wk_workOut_268 rfl) ?_
  refine px (fun _ => pm_getf fl_Wk_9 (pc := 269) d_Wk_workOut_269 (H.2.2.2.2.2.2.2 n hn).1 rfl) ?_
  refine px (fun _ => pm_aload_n (pc := 272) d_Wk_workOut_272 rfl) ?_
  refine px (fun _ => pm_aload_n (pc := 273) d_Wk_workOut_273 rfl) ?_
  refine px (fun _ => pm_aload (pc := 274) d_Wk_workOut_274 rfl) ?_
  rw [hop]
  obtain ⟨⟨o7, h7⟩, ⟨e7, f7, H7, F7, iv7⟩, en7⟩ := w_pair8 (l := l) (G := G) (fi := fi) hl H hW ho ha na hb nb
  dsimp only at e7 H7 F7
  subst e7
  refine px (fun _ => k_Wk_workOut_276 (kc1 := 0) (ks1 := 0) (kc := 0) (ks := 0) (av := [.int (8), .ref (8 + 3 * a), .ref (8 + 3 * b), .ref (8 + 3 * o9)]) (st := []) (en7) rfl rfl (Nat.le_of_ble_eq_true rfl)) ?_
  refine px (fun _ => pm_iconst (v := 0) (pc := 279) d_Wk_workOut_279 rfl) ?_
  exact pxr (pm_iret (pc := 280) d_Wk_workOut_280 rfl rfl) ⟨f7, H7, F7, rfl, iv7⟩
set_option maxHeartbeats 4000000 in
set_option maxRecDepth 20000 in
theorem x_4 {l : Launch} {G : pm_G} {fi : Bool} {h : pm_H} {S : gS} {a b o9 n xc : Nat} (hl : l.stackTraces = false) (H : gH S h) (hW : gW S) (hn : n < 14) (ho : o9 < 20) (ha : a < 20) (na : a ≠ o9) (hb : b < 20) (nb : b ≠ o9) (hop : gN S n 1 = 4) (hBa : ∀ x k, x < gT S o9 1 → k < gT S a 2 → gB (gC S a (x * 4 + k))) (hBb : ∀ k y, k < gT S a 2 → y < gT S o9 2 → gB (gC S b (k * 4 + y))) : pm_Cn l G fi fi 0 0 M_Wk_workOut [.ref (67 + 2 * n), .ref (8 + 3 * a), .ref (8 + 3 * b), .ref (xc), .ref (8 + 3 * o9)] h (g_P0 S o9 h (fun x y => g_dot (fun k => gC S a (x * 4 + k)) (fun k => gC S b (k * 4 + y)) (gT S a 2) 0 FP.dconst0)) := by
  refine pm_Cn.of hl (by decide) (Nat.le_of_ble_eq_true rfl) ?_
  have bo := hW.2.2.2.2.1 o9 ho
  have ba := hW.2.2.2.2.1 a ha
  refine px (fun _ => pm_aload_n (pc := 0) d_Wk_workOut_0 rfl) ?_
  refine px (fun _ => pm_getf fl_Wk_9 (pc := 1) d_Wk_workOut_1 (H.2.2.2.2.2.2.2 n hn).1 rfl) ?_
  have tx_4 : (nI (gN S n 1) : Int32).toInt = 4 := by rw [hop]; rfl
  refine px (fun _ => pm_tabIn (off := 96) (tgt := 100) (pc := 4) d_Wk_workOut_4 (by rw [tx_4]; decide) (by rw [tx_4]; decide) (by rw [tx_4]; rfl) (by decide)) ?_
  refine px (fun _ => pm_aload_n (pc := 100) d_Wk_workOut_100 rfl) ?_
  refine px (fun _ => pm_aload_n (pc := 101) d_Wk_workOut_101 rfl) ?_
  refine px (fun _ => pm_aload (pc := 102) d_Wk_workOut_102 rfl) ?_
  obtain ⟨⟨o7, h7⟩, ⟨e7, f7, H7, F7, iv7⟩, en7⟩ := w_mul (l := l) (G := G) (fi := fi) hl H hW ho ha na hb nb hBa hBb
  dsimp only at e7 H7 F7
  subst e7
  refine px (fun _ => k_Wk_workOut_104 (kc1 := 0) (ks1 := 0) (kc := 0) (ks := 0) (av := [.ref (8 + 3 * a), .ref (8 + 3 * b), .ref (8 + 3 * o9)]) (st := []) (en7) rfl rfl (Nat.le_of_ble_eq_true rfl)) ?_
  refine px (fun _ => pm_goto (tgt := 279) (pc := 107) d_Wk_workOut_107 (by decide)) ?_
  refine px (fun _ => pm_iconst (v := 0) (pc := 279) d_Wk_workOut_279 rfl) ?_
  exact pxr (pm_iret (pc := 280) d_Wk_workOut_280 rfl rfl) ⟨f7, H7, F7, rfl, iv7⟩
set_option maxHeartbeats 4000000 in
set_option maxRecDepth 20000 in
theorem x_5 {l : Launch} {G : pm_G} {fi : Bool} {h : pm_H} {S : gS} {a o9 n xb xc : Nat} (hl : l.stackTraces = false) (H : gH S h) (hW : gW S) (hn : n < 14) (ho : o9 < 20) (ha : a < 20) (na : a ≠ o9) (hop : gN S n 1 = 5)  : pm_Cn l G fi fi 0 0 M_Wk_workOut [.ref (67 + 2 * n), .ref (8 + 3 * a), .ref (xb), .ref (xc), .ref (8 + 3 * o9)] h (g_P0 S o9 h (fun x y => g_one S n (gC S a (x * 4 + y)))) := by
  refine pm_Cn.of hl (by decide) (Nat.le_of_ble_eq_true rfl) ?_
  have bo := hW.2.2.2.2.1 o9 ho
  have ba := hW.2.2.2.2.1 a ha
  refine px (fun _ => pm_aload_n (pc := 0) d_Wk_workOut_0 rfl) ?_
  refine px (fun _ => pm_getf fl_Wk_9 (pc := 1) d_Wk_workOut_1 (H.2.2.2.2.2.2.2 n hn).1 rfl) ?_
  have tx_4 : (nI (gN S n 1) : Int32).toInt = 5 := by rw [hop]; rfl
  refine px (fun _ => pm_tabIn (off := 254) (tgt := 258) (pc := 4) d_Wk_workOut_4 (by rw [tx_4]; decide) (by rw [tx_4]; decide) (by rw [tx_4]; rfl) (by decide)) ?_
  refine px (fun _ => pm_aload_n (pc := 258) d_Wk_workOut_258 rfl) ?_
  refine px (fun _ => pm_aload_n (pc := 259) d_Wk_workOut_259 rfl) ?_
  refine px (fun _ => pm_aload (pc := 260) d_Wk_workOut_260 rfl) ?_
  obtain ⟨⟨o7, h7⟩, ⟨e7, f7, H7, F7, iv7⟩, en7⟩ := w_each (l := l) (G := G) (fi := fi) hl H hW ho ha na (fun f h9 x H9 => c_one5 (S := gsC S o9 f) hl H9 hn hop)
  dsimp only at e7 H7 F7
  subst e7
  refine px (fun _ => k_Wk_workOut_262 (kc1 := 0) (ks1 := 0) (kc := 0) (ks := 0) (av := [.ref (67 + 2 * n), .ref (8 + 3 * a), .ref (8 + 3 * o9)]) (st := []) (en7) rfl rfl (Nat.le_of_ble_eq_true rfl)) ?_
  refine px (fun _ => pm_goto (tgt := 279) (pc := 265) d_Wk_workOut_265 (by decide)) ?_
  refine px (fun _ => pm_iconst (v := 0) (pc := 279) d_Wk_workOut_279 rfl) ?_
  exact pxr (pm_iret (pc := 280) d_Wk_workOut_280 rfl rfl) ⟨f7, H7, F7, rfl, iv7⟩
set_option maxHeartbeats 4000000 in
set_option maxRecDepth 20000 in
theorem x_7 {l : Launch} {G : pm_G} {fi : Bool} {h : pm_H} {S : gS} {a o9 n xb xc : Nat} (hl : l.stackTraces = false) (H : gH S h) (hW : gW S) (hn : n < 14) (ho : o9 < 20) (ha : a < 20) (na : a ≠ o9) (hop : gN S n 1 = 7)  : pm_Cn l G fi fi 0 0 M_Wk_workOut [.ref (67 + 2 * n), .ref (8 + 3 * a), .ref (xb), .ref (xc), .ref (8 + 3 * o9)] h (g_P0 S o9 h (fun x y => g_one S n (gC S a (x * 4 + y)))) := by
  refine pm_Cn.of hl (by decide) (Nat.le_of_ble_eq_true rfl) ?_
  have bo := hW.2.2.2.2.1 o9 ho
  have ba := hW.2.2.2.2.1 a ha
  refine px (fun _ => pm_aload_n (pc := 0) d_Wk_workOut_0 rfl) ?_
  refine px (fun _ => pm_getf fl_Wk_9 (pc := 1) d_Wk_workOut_1 (H.2.2.2.2.2.2.2 n hn).1 rfl) ?_
  have tx_4 : (nI (gN S n 1) : Int32).toInt = 7 := by rw [hop]; rfl
  refine px (fun _ => pm_tabIn (off := 254) (tgt := 258) (pc := 4) d_Wk_workOut_4 (by rw [tx_4]; decide) (by rw [tx_4]; decide) (by rw [tx_4]; rfl) (by decide)) ?_
  refine px (fun _ => pm_aload_n (pc := 258) d_Wk_workOut_258 rfl) ?_
  refine px (fun _ => pm_aload_n (pc := 259) d_Wk_workOut_259 rfl) ?_
  refine px (fun _ => pm_aload (pc := 260) d_Wk_workOut_260 rfl) ?_
  obtain ⟨⟨o7, h7⟩, ⟨e7, f7, H7, F7, iv7⟩, en7⟩ := w_each (l := l) (G := G) (fi := fi) hl H hW ho ha na (fun f h9 x H9 => c_one7 (S := gsC S o9 f) hl H9 hn hop)
  dsimp only at e7 H7 F7
  subst e7
  refine px (fun _ => k_Wk_workOut_262 (kc1 := 0) (ks1 := 0) (kc := 0) (ks := 0) (av := [.ref (67 + 2 * n), .ref (8 + 3 * a), .ref (8 + 3 * o9)]) (st := []) (en7) rfl rfl (Nat.le_of_ble_eq_true rfl)) ?_
  refine px (fun _ => pm_goto (tgt := 279) (pc := 265) d_Wk_workOut_265 (by decide)) ?_
  refine px (fun _ => pm_iconst (v := 0) (pc := 279) d_Wk_workOut_279 rfl) ?_
  exact pxr (pm_iret (pc := 280) d_Wk_workOut_280 rfl rfl) ⟨f7, H7, F7, rfl, iv7⟩
set_option maxHeartbeats 4000000 in
set_option maxRecDepth 20000 in
theorem x_18 {l : Launch} {G : pm_G} {fi : Bool} {h : pm_H} {S : gS} {a o9 n xb xc : Nat} (hl : l.stackTraces = false) (H : gH S h) (hW : gW S) (hn : n < 14) (ho : o9 < 20) (ha : a < 20) (na : a ≠ o9) (hop : gN S n 1 = 18)  : pm_Cn l G fi fi 0 0 M_Wk_workOut [.ref (67 + 2 * n), .ref (8 + 3 * a), .ref (xb), .ref (xc), .ref (8 + 3 * o9)] h (g_P0 S o9 h (fun x y => g_one S n (gC S a (x * 4 + y)))) := by
  refine pm_Cn.of hl (by decide) (Nat.le_of_ble_eq_true rfl) ?_
  have bo := hW.2.2.2.2.1 o9 ho
  have ba := hW.2.2.2.2.1 a ha
  refine px (fun _ => pm_aload_n (pc := 0) d_Wk_workOut_0 rfl) ?_
  refine px (fun _ => pm_getf fl_Wk_9 (pc := 1) d_Wk_workOut_1 (H.2.2.2.2.2.2.2 n hn).1 rfl) ?_
  have tx_4 : (nI (gN S n 1) : Int32).toInt = 18 := by rw [hop]; rfl
  refine px (fun _ => pm_tabIn (off := 254) (tgt := 258) (pc := 4) d_Wk_workOut_4 (by rw [tx_4]; decide) (by rw [tx_4]; decide) (by rw [tx_4]; rfl) (by decide)) ?_
  refine px (fun _ => pm_aload_n (pc := 258) d_Wk_workOut_258 rfl) ?_
  refine px (fun _ => pm_aload_n (pc := 259) d_Wk_workOut_259 rfl) ?_
  refine px (fun _ => pm_aload (pc := 260) d_Wk_workOut_260 rfl) ?_
  obtain ⟨⟨o7, h7⟩, ⟨e7, f7, H7, F7, iv7⟩, en7⟩ := w_each (l := l) (G := G) (fi := fi) hl H hW ho ha na (fun f h9 x H9 => c_one18 (S := gsC S o9 f) hl H9 hn hop)
  dsimp only at e7 H7 F7
  subst e7
  refine px (fun _ => k_Wk_workOut_262 (kc1 := 0) (ks1 := 0) (kc := 0) (ks := 0) (av := [.ref (67 + 2 * n), .ref (8 + 3 * a), .ref (8 + 3 * o9)]) (st := []) (en7) rfl rfl (Nat.le_of_ble_eq_true rfl)) ?_
  refine px (fun _ => pm_goto (tgt := 279) (pc := 265) d_Wk_workOut_265 (by decide)) ?_
  refine px (fun _ => pm_iconst (v := 0) (pc := 279) d_Wk_workOut_279 rfl) ?_
  exact pxr (pm_iret (pc := 280) d_Wk_workOut_280 rfl rfl) ⟨f7, H7, F7, rfl, iv7⟩
set_option maxHeartbeats 4000000 in
set_option maxRecDepth 20000 in
theorem x_6 {l : Launch} {G : pm_G} {fi : Bool} {h : pm_H} {S : gS} {a o9 n xb xc : Nat} (hl : l.stackTraces = false) (H : gH S h) (hW : gW S) (hn : n < 14) (ho : o9 < 20) (ha : a < 20) (na : a ≠ o9) (hop : gN S n 1 = 6)  : pm_Cn l G fi fi 0 0 M_Wk_workOut [.ref (67 + 2 * n), .ref (8 + 3 * a), .ref (xb), .ref (xc), .ref (8 + 3 * o9)] h (g_P0 S o9 h (fun x y => gC S a (y * 4 + x))) := by
  refine pm_Cn.of hl (by decide) (Nat.le_of_ble_eq_true rfl) ?_
  have bo := hW.2.2.2.2.1 o9 ho
  have ba := hW.2.2.2.2.1 a ha
  refine px (fun _ => pm_aload_n (pc := 0) d_Wk_workOut_0 rfl) ?_
  refine px (fun _ => pm_getf fl_Wk_9 (pc := 1) d_Wk_workOut_1 (H.2.2.2.2.2.2.2 n hn).1 rfl) ?_
  have tx_4 : (nI (gN S n 1) : Int32).toInt = 6 := by rw [hop]; rfl
  refine px (fun _ => pm_tabIn (off := 106) (tgt := 110) (pc := 4) d_Wk_workOut_4 (by rw [tx_4]; decide) (by rw [tx_4]; decide) (by rw [tx_4]; rfl) (by decide)) ?_
  refine px (fun _ => pm_aload_n (pc := 110) d_Wk_workOut_110 rfl) ?_
  refine px (fun _ => pm_aload (pc := 111) d_Wk_workOut_111 rfl) ?_
  obtain ⟨⟨o7, h7⟩, ⟨e7, f7, H7, F7, iv7⟩, en7⟩ := w_turn (l := l) (G := G) (fi := fi) hl H hW ho ha na
  dsimp only at e7 H7 F7
  subst e7
  refine px (fun _ => k_Wk_workOut_113 (kc1 := 0) (ks1 := 0) (kc := 0) (ks := 0) (av := [.ref (8 + 3 * a), .ref (8 + 3 * o9)]) (st := []) (en7) rfl rfl (Nat.le_of_ble_eq_true rfl)) ?_
  refine px (fun _ => pm_goto (tgt := 279) (pc := 116) d_Wk_workOut_116 (by decide)) ?_
  refine px (fun _ => pm_iconst (v := 0) (pc := 279) d_Wk_workOut_279 rfl) ?_
  exact pxr (pm_iret (pc := 280) d_Wk_workOut_280 rfl rfl) ⟨f7, H7, F7, rfl, iv7⟩
set_option maxHeartbeats 4000000 in
set_option maxRecDepth 20000 in
theorem x_9 {l : Launch} {G : pm_G} {fi : Bool} {h : pm_H} {S : gS} {a b c o9 n : Nat} (hl : l.stackTraces = false) (H : gH S h) (hW : gW S) (hn : n < 14) (ho : o9 < 20) (ha : a < 20) (na : a ≠ o9) (hb : b < 20) (nb : b ≠ o9) (hc : c < 20) (nc : c ≠ o9) (hop : gN S n 1 = 9)  : pm_Cn l G fi fi 0 0 M_Wk_workOut [.ref (67 + 2 * n), .ref (8 + 3 * a), .ref (8 + 3 * b), .ref (8 + 3 * c), .ref (8 + 3 * o9)] h (g_P0 S o9 h (fun x y => if ¬ fEq (g_ag S c x y) FP.dconst0 then g_ag S a x y else g_ag S b x y)) := by
  refine pm_Cn.of hl (by decide) (Nat.le_of_ble_eq_true rfl) ?_
  have bo := hW.2.2.2.2.1 o9 ho
  have ba := hW.2.2.2.2.1 a ha
  refine px (fun _ => pm_aload_n (pc := 0) d_Wk_workOut_0 rfl) ?_
  refine px (fun _ => pm_getf fl_Wk_9 (pc := 1) d_Wk_workOut_1 (H.2.2.2.2.2.2.2 n hn).1 rfl) ?_
  have tx_4 : (nI (gN S n 1) : Int32).toInt = 9 := by rw [hop]; rfl
  refine px (fun _ => pm_tabIn (off := 115) (tgt := 119) (pc := 4) d_Wk_workOut_4 (by rw [tx_4]; decide) (by rw [tx_4]; decide) (by rw [tx_4]; rfl) (by decide)) ?_
  refine px (fun _ => pm_aload_n (pc := 119) d_Wk_workOut_119 rfl) ?_
  refine px (fun _ => pm_aload_n (pc := 120) d_Wk_workOut_120 rfl) ?_
  refine px (fun _ => pm_aload_n (pc := 121) d_Wk_workOut_121 rfl) ?_
  refine px (fun _ => pm_aload (pc := 122) d_Wk_workOut_122 rfl) ?_
  obtain ⟨⟨o7, h7⟩, ⟨e7, f7, H7, F7, iv7⟩, en7⟩ := w_chs (l := l) (G := G) (fi := fi) hl H hW ho ha na hb nb hc nc
  dsimp only at e7 H7 F7
  subst e7
  refine px (fun _ => k_Wk_workOut_124 (kc1 := 0) (ks1 := 0) (kc := 0) (ks := 0) (av := [.ref (8 + 3 * a), .ref (8 + 3 * b), .ref (8 + 3 * c), .ref (8 + 3 * o9)]) (st := []) (en7) rfl rfl (Nat.le_of_ble_eq_true rfl)) ?_
  refine px (fun _ => pm_goto (tgt := 279) (pc := 127) d_Wk_workOut_127 (by decide)) ?_
  refine px (fun _ => pm_iconst (v := 0) (pc := 279) d_Wk_workOut_279 rfl) ?_
  exact pxr (pm_iret (pc := 280) d_Wk_workOut_280 rfl rfl) ⟨f7, H7, F7, rfl, iv7⟩
set_option maxHeartbeats 4000000 in
set_option maxRecDepth 20000 in
theorem x_10_0 {l : Launch} {G : pm_G} {fi : Bool} {h : pm_H} {S : gS} {a o9 n xb xc : Nat} (hl : l.stackTraces = false) (H : gH S h) (hW : gW S) (hn : n < 14) (ho : o9 < 20) (ha : a < 20) (na : a ≠ o9) (hop : gN S n 1 = 10) (hp : gQ S n 0 = 0) (sr : gT S o9 1 = 1) (sc : gT S o9 2 = gT S a 2) (hBa : ∀ x k, x < gT S a 1 → k < gT S a 2 → gB (gC S a (x * 4 + k))) : pm_Cn l G fi fi 0 0 M_Wk_workOut [.ref (67 + 2 * n), .ref (8 + 3 * a), .ref (xb), .ref (xc), .ref (8 + 3 * o9)] h (g_P0 S o9 h (fun x y => g_acc (gT S a 0) (g_c0 S a y) (gT S a 1))) := by
  refine pm_Cn.of hl (by decide) (Nat.le_of_ble_eq_true rfl) ?_
  have bo := hW.2.2.2.2.1 o9 ho
  have ba := hW.2.2.2.2.1 a ha
  refine px (fun _ => pm_aload_n (pc := 0) d_Wk_workOut_0 rfl) ?_
  refine px (fun _ => pm_getf fl_Wk_9 (pc := 1) d_Wk_workOut_1 (H.2.2.2.2.2.2.2 n hn).1 rfl) ?_
  have tx_4 : (nI (gN S n 1) : Int32).toInt = 10 := by rw [hop]; rfl
  refine px (fun _ => pm_tabIn (off := 126) (tgt := 130) (pc := 4) d_Wk_workOut_4 (by rw [tx_4]; decide) (by rw [tx_4]; decide) (by rw [tx_4]; rfl) (by decide)) ?_
  refine px (fun _ => pm_aload_n (pc := 130) d_Wk_workOut_130 rfl) ?_
  refine px (fun _ => pm_getf fl_Wk_36 (pc := 131) d_Wk_workOut_131 (H.2.2.2.2.2.2.2 n hn).1 rfl) ?_
  refine px (fun _ => pm_aload_n (pc := 134) d_Wk_workOut_134 rfl) ?_
  refine px (fun _ => pm_aload (pc := 135) d_Wk_workOut_135 rfl) ?_
  rw [hp]
  obtain ⟨⟨o7, h7⟩, ⟨e7, f7, H7, F7, iv7⟩, en7⟩ := w_sum0 (l := l) (G := G) (fi := fi) hl H hW ho ha na sr sc hBa
  dsimp only at e7 H7 F7
  subst e7
  refine px (fun _ => k_Wk_workOut_137 (kc1 := 0) (ks1 := 0) (kc := 0) (ks := 0) (av := [.int (0), .ref (8 + 3 * a), .ref (8 + 3 * o9)]) (st := []) (en7) rfl rfl (Nat.le_of_ble_eq_true rfl)) ?_
  refine px (fun _ => pm_goto (tgt := 279) (pc := 140) d_Wk_workOut_140 (by decide)) ?_
  refine px (fun _ => pm_iconst (v := 0) (pc := 279) d_Wk_workOut_279 rfl) ?_
  exact pxr (pm_iret (pc := 280) d_Wk_workOut_280 rfl rfl) ⟨f7, H7, F7, rfl, iv7⟩
set_option maxHeartbeats 4000000 in
set_option maxRecDepth 20000 in
theorem x_10_1 {l : Launch} {G : pm_G} {fi : Bool} {h : pm_H} {S : gS} {a o9 n xb xc : Nat} (hl : l.stackTraces = false) (H : gH S h) (hW : gW S) (hn : n < 14) (ho : o9 < 20) (ha : a < 20) (na : a ≠ o9) (hop : gN S n 1 = 10) (hp : gQ S n 0 = 1) (sr : gT S o9 1 = gT S a 1) (sc : gT S o9 2 = 1) (hBa : ∀ x k, x < gT S a 1 → k < gT S a 2 → gB (gC S a (x * 4 + k))) : pm_Cn l G fi fi 0 0 M_Wk_workOut [.ref (67 + 2 * n), .ref (8 + 3 * a), .ref (xb), .ref (xc), .ref (8 + 3 * o9)] h (g_P0 S o9 h (fun x y => g_acc (gT S a 0) (g_c1 S a x) (gT S a 2))) := by
  refine pm_Cn.of hl (by decide) (Nat.le_of_ble_eq_true rfl) ?_
  have bo := hW.2.2.2.2.1 o9 ho
  have ba := hW.2.2.2.2.1 a ha
  refine px (fun _ => pm_aload_n (pc := 0) d_Wk_workOut_0 rfl) ?_
  refine px (fun _ => pm_getf fl_Wk_9 (pc := 1) d_Wk_workOut_1 (H.2.2.2.2.2.2.2 n hn).1 rfl) ?_
  have tx_4 : (nI (gN S n 1) : Int32).toInt = 10 := by rw [hop]; rfl
  refine px (fun _ => pm_tabIn (off := 126) (tgt := 130) (pc := 4) d_Wk_workOut_4 (by rw [tx_4]; decide) (by rw [tx_4]; decide) (by rw [tx_4]; rfl) (by decide)) ?_
  refine px (fun _ => pm_aload_n (pc := 130) d_Wk_workOut_130 rfl) ?_
  refine px (fun _ => pm_getf fl_Wk_36 (pc := 131) d_Wk_workOut_131 (H.2.2.2.2.2.2.2 n hn).1 rfl) ?_
  refine px (fun _ => pm_aload_n (pc := 134) d_Wk_workOut_134 rfl) ?_
  refine px (fun _ => pm_aload (pc := 135) d_Wk_workOut_135 rfl) ?_
  rw [hp]
  obtain ⟨⟨o7, h7⟩, ⟨e7, f7, H7, F7, iv7⟩, en7⟩ := w_sum1 (l := l) (G := G) (fi := fi) hl H hW ho ha na sr sc hBa
  dsimp only at e7 H7 F7
  subst e7
  refine px (fun _ => k_Wk_workOut_137 (kc1 := 0) (ks1 := 0) (kc := 0) (ks := 0) (av := [.int (1), .ref (8 + 3 * a), .ref (8 + 3 * o9)]) (st := []) (en7) rfl rfl (Nat.le_of_ble_eq_true rfl)) ?_
  refine px (fun _ => pm_goto (tgt := 279) (pc := 140) d_Wk_workOut_140 (by decide)) ?_
  refine px (fun _ => pm_iconst (v := 0) (pc := 279) d_Wk_workOut_279 rfl) ?_
  exact pxr (pm_iret (pc := 280) d_Wk_workOut_280 rfl rfl) ⟨f7, H7, F7, rfl, iv7⟩
set_option maxHeartbeats 4000000 in
set_option maxRecDepth 20000 in
theorem x_11_0 {l : Launch} {G : pm_G} {fi : Bool} {h : pm_H} {S : gS} {a o9 n xb xc : Nat} (hl : l.stackTraces = false) (H : gH S h) (hW : gW S) (hn : n < 14) (ho : o9 < 20) (ha : a < 20) (na : a ≠ o9) (hop : gN S n 1 = 11) (hp : gQ S n 0 = 0) (sr : gT S o9 1 = 1) (sc : gT S o9 2 = gT S a 2) : pm_Cn l G fi fi 0 0 M_Wk_workOut [.ref (67 + 2 * n), .ref (8 + 3 * a), .ref (xb), .ref (xc), .ref (8 + 3 * o9)] h (g_P0 S o9 h (fun x y => g_mx (g_c0 S a y) (gT S a 1 - 1))) := by
  refine pm_Cn.of hl (by decide) (Nat.le_of_ble_eq_true rfl) ?_
  have bo := hW.2.2.2.2.1 o9 ho
  have ba := hW.2.2.2.2.1 a ha
  refine px (fun _ => pm_aload_n (pc := 0) d_Wk_workOut_0 rfl) ?_
  refine px (fun _ => pm_getf fl_Wk_9 (pc := 1) d_Wk_workOut_1 (H.2.2.2.2.2.2.2 n hn).1 rfl) ?_
  have tx_4 : (nI (gN S n 1) : Int32).toInt = 11 := by rw [hop]; rfl
  refine px (fun _ => pm_tabIn (off := 139) (tgt := 143) (pc := 4) d_Wk_workOut_4 (by rw [tx_4]; decide) (by rw [tx_4]; decide) (by rw [tx_4]; rfl) (by decide)) ?_
  refine px (fun _ => pm_aload_n (pc := 143) d_Wk_workOut_143 rfl) ?_
  refine px (fun _ => pm_getf fl_Wk_36 (pc := 144) d_Wk_workOut_144 (H.2.2.2.2.2.2.2 n hn).1 rfl) ?_
  refine px (fun _ => pm_aload_n (pc := 147) d_Wk_workOut_147 rfl) ?_
  refine px (fun _ => pm_aload (pc := 148) d_Wk_workOut_148 rfl) ?_
  rw [hp]
  obtain ⟨⟨o7, h7⟩, ⟨e7, f7, H7, F7, iv7⟩, en7⟩ := w_gre0 (l := l) (G := G) (fi := fi) hl H hW ho ha na sr sc
  dsimp only at e7 H7 F7
  subst e7
  refine px (fun _ => k_Wk_workOut_150 (kc1 := 0) (ks1 := 0) (kc := 0) (ks := 0) (av := [.int (0), .ref (8 + 3 * a), .ref (8 + 3 * o9)]) (st := []) (en7) rfl rfl (Nat.le_of_ble_eq_true rfl)) ?_
  refine px (fun _ => pm_goto (tgt := 279) (pc := 153) d_Wk_workOut_153 (by decide)) ?_
  refine px (fun _ => pm_iconst (v := 0) (pc := 279) d_Wk_workOut_279 rfl) ?_
  exact pxr (pm_iret (pc := 280) d_Wk_workOut_280 rfl rfl) ⟨f7, H7, F7, rfl, iv7⟩
set_option maxHeartbeats 4000000 in
set_option maxRecDepth 20000 in
theorem x_11_1 {l : Launch} {G : pm_G} {fi : Bool} {h : pm_H} {S : gS} {a o9 n xb xc : Nat} (hl : l.stackTraces = false) (H : gH S h) (hW : gW S) (hn : n < 14) (ho : o9 < 20) (ha : a < 20) (na : a ≠ o9) (hop : gN S n 1 = 11) (hp : gQ S n 0 = 1) (sr : gT S o9 1 = gT S a 1) (sc : gT S o9 2 = 1) : pm_Cn l G fi fi 0 0 M_Wk_workOut [.ref (67 + 2 * n), .ref (8 + 3 * a), .ref (xb), .ref (xc), .ref (8 + 3 * o9)] h (g_P0 S o9 h (fun x y => g_mx (g_c1 S a x) (gT S a 2 - 1))) := by
  refine pm_Cn.of hl (by decide) (Nat.le_of_ble_eq_true rfl) ?_
  have bo := hW.2.2.2.2.1 o9 ho
  have ba := hW.2.2.2.2.1 a ha
  refine px (fun _ => pm_aload_n (pc := 0) d_Wk_workOut_0 rfl) ?_
  refine px (fun _ => pm_getf fl_Wk_9 (pc := 1) d_Wk_workOut_1 (H.2.2.2.2.2.2.2 n hn).1 rfl) ?_
  have tx_4 : (nI (gN S n 1) : Int32).toInt = 11 := by rw [hop]; rfl
  refine px (fun _ => pm_tabIn (off := 139) (tgt := 143) (pc := 4) d_Wk_workOut_4 (by rw [tx_4]; decide) (by rw [tx_4]; decide) (by rw [tx_4]; rfl) (by decide)) ?_
  refine px (fun _ => pm_aload_n (pc := 143) d_Wk_workOut_143 rfl) ?_
  refine px (fun _ => pm_getf fl_Wk_36 (pc := 144) d_Wk_workOut_144 (H.2.2.2.2.2.2.2 n hn).1 rfl) ?_
  refine px (fun _ => pm_aload_n (pc := 147) d_Wk_workOut_147 rfl) ?_
  refine px (fun _ => pm_aload (pc := 148) d_Wk_workOut_148 rfl) ?_
  rw [hp]
  obtain ⟨⟨o7, h7⟩, ⟨e7, f7, H7, F7, iv7⟩, en7⟩ := w_gre1 (l := l) (G := G) (fi := fi) hl H hW ho ha na sr sc
  dsimp only at e7 H7 F7
  subst e7
  refine px (fun _ => k_Wk_workOut_150 (kc1 := 0) (ks1 := 0) (kc := 0) (ks := 0) (av := [.int (1), .ref (8 + 3 * a), .ref (8 + 3 * o9)]) (st := []) (en7) rfl rfl (Nat.le_of_ble_eq_true rfl)) ?_
  refine px (fun _ => pm_goto (tgt := 279) (pc := 153) d_Wk_workOut_153 (by decide)) ?_
  refine px (fun _ => pm_iconst (v := 0) (pc := 279) d_Wk_workOut_279 rfl) ?_
  exact pxr (pm_iret (pc := 280) d_Wk_workOut_280 rfl rfl) ⟨f7, H7, F7, rfl, iv7⟩
set_option maxHeartbeats 4000000 in
set_option maxRecDepth 20000 in
theorem x_12 {l : Launch} {G : pm_G} {fi : Bool} {h : pm_H} {S : gS} {a o9 n xb xc : Nat} (hl : l.stackTraces = false) (H : gH S h) (hW : gW S) (hn : n < 14) (ho : o9 < 20) (ha : a < 20) (na : a ≠ o9) (hop : gN S n 1 = 12) (sr : gT S o9 1 = gT S a 1) (sc : gT S o9 2 = 1) : pm_Cn l G fi fi 0 0 M_Wk_workOut [.ref (67 + 2 * n), .ref (8 + 3 * a), .ref (xb), .ref (xc), .ref (8 + 3 * o9)] h (g_P0 S o9 h (fun x y => FP.i2d (nI (g_fi (g_c1 S a x) (gT S a 2 - 1))))) := by
  refine pm_Cn.of hl (by decide) (Nat.le_of_ble_eq_true rfl) ?_
  have bo := hW.2.2.2.2.1 o9 ho
  have ba := hW.2.2.2.2.1 a ha
  refine px (fun _ => pm_aload_n (pc := 0) d_Wk_workOut_0 rfl) ?_
  refine px (fun _ => pm_getf fl_Wk_9 (pc := 1) d_Wk_workOut_1 (H.2.2.2.2.2.2.2 n hn).1 rfl) ?_
  have tx_4 : (nI (gN S n 1) : Int32).toInt = 12 := by rw [hop]; rfl
  refine px (fun _ => pm_tabIn (off := 152) (tgt := 156) (pc := 4) d_Wk_workOut_4 (by rw [tx_4]; decide) (by rw [tx_4]; decide) (by rw [tx_4]; rfl) (by decide)) ?_
  refine px (fun _ => pm_aload_n (pc := 156) d_Wk_workOut_156 rfl) ?_
  refine px (fun _ => pm_aload (pc := 157) d_Wk_workOut_157 rfl) ?_
  obtain ⟨⟨o7, h7⟩, ⟨e7, f7, H7, F7, iv7⟩, en7⟩ := w_fg (l := l) (G := G) (fi := fi) hl H hW ho ha na sr sc
  dsimp only at e7 H7 F7
  subst e7
  refine px (fun _ => k_Wk_workOut_159 (kc1 := 0) (ks1 := 0) (kc := 0) (ks := 0) (av := [.ref (8 + 3 * a), .ref (8 + 3 * o9)]) (st := []) (en7) rfl rfl (Nat.le_of_ble_eq_true rfl)) ?_
  refine px (fun _ => pm_goto (tgt := 279) (pc := 162) d_Wk_workOut_162 (by decide)) ?_
  refine px (fun _ => pm_iconst (v := 0) (pc := 279) d_Wk_workOut_279 rfl) ?_
  exact pxr (pm_iret (pc := 280) d_Wk_workOut_280 rfl rfl) ⟨f7, H7, F7, rfl, iv7⟩
set_option maxHeartbeats 4000000 in
set_option maxRecDepth 20000 in
theorem x_14 {l : Launch} {G : pm_G} {fi : Bool} {h : pm_H} {S : gS} {a o9 n xb xc : Nat} {p : Nat} (hl : l.stackTraces = false) (H : gH S h) (hW : gW S) (hn : n < 14) (ho : o9 < 20) (ha : a < 20) (na : a ≠ o9) (hop : gN S n 1 = 14) (hp : gQ S n 0 = nI p) (hp4 : p + gT S o9 1 ≤ 4) (sc : gT S o9 2 = gT S a 2) : pm_Cn l G fi fi 0 0 M_Wk_workOut [.ref (67 + 2 * n), .ref (8 + 3 * a), .ref (xb), .ref (xc), .ref (8 + 3 * o9)] h (g_P0 S o9 h (fun x y => gC S a ((p + x) * 4 + y))) := by
  refine pm_Cn.of hl (by decide) (Nat.le_of_ble_eq_true rfl) ?_
  have bo := hW.2.2.2.2.1 o9 ho
  have ba := hW.2.2.2.2.1 a ha
  have hnd : h[67 + 2 * n]? = some (pm_Ob 0 [.ref (68 + 2 * n), .int (nI (gN S n 0)), .int (nI (gN S n 1)), .int (nI (gN S n 2)), .int (nI p), .int (gQ S n 1), .int (nI (gN S n 3)), .int (nI (gN S n 4)), .int (nI (gN S n 5))]) := by
    first | rw [← hp, ← hq] | rw [← hp]
    exact (H.2.2.2.2.2.2.2 n hn).1
  refine px (fun _ => pm_aload_n (pc := 0) d_Wk_workOut_0 rfl) ?_
  refine px (fun _ => pm_getf fl_Wk_9 (pc := 1) d_Wk_workOut_1 hnd rfl) ?_
  have tx_4 : (nI (gN S n 1) : Int32).toInt = 14 := by rw [hop]; rfl
  refine px (fun _ => pm_tabIn (off := 208) (tgt := 212) (pc := 4) d_Wk_workOut_4 (by rw [tx_4]; decide) (by rw [tx_4]; decide) (by rw [tx_4]; rfl) (by decide)) ?_
  refine px (fun _ => pm_aload_n (pc := 212) d_Wk_workOut_212 rfl) ?_
  refine px (fun _ => pm_getf fl_Wk_36 (pc := 213) d_Wk_workOut_213 hnd rfl) ?_
  refine px (fun _ => pm_aload_n (pc := 216) d_Wk_workOut_216 rfl) ?_
  refine px (fun _ => pm_aload (pc := 217) d_Wk_workOut_217 rfl) ?_
  obtain ⟨⟨o7, h7⟩, ⟨e7, f7, H7, F7, iv7⟩, en7⟩ := w_cut (l := l) (G := G) (fi := fi) hl H hW ho ha na hp4 sc
  dsimp only at e7 H7 F7
  subst e7
  refine px (fun _ => k_Wk_workOut_219 (kc1 := 0) (ks1 := 0) (kc := 0) (ks := 0) (av := [.int (nI p), .ref (8 + 3 * a), .ref (8 + 3 * o9)]) (st := []) (en7) rfl rfl (Nat.le_of_ble_eq_true rfl)) ?_
  refine px (fun _ => pm_goto (tgt := 279) (pc := 222) d_Wk_workOut_222 (by decide)) ?_
  refine px (fun _ => pm_iconst (v := 0) (pc := 279) d_Wk_workOut_279 rfl) ?_
  exact pxr (pm_iret (pc := 280) d_Wk_workOut_280 rfl rfl) ⟨f7, H7, F7, rfl, iv7⟩
set_option maxHeartbeats 4000000 in
set_option maxRecDepth 20000 in
theorem x_16 {l : Launch} {G : pm_G} {fi : Bool} {h : pm_H} {S : gS} {a b o9 n xc : Nat} {p q : Nat} (hl : l.stackTraces = false) (H : gH S h) (hW : gW S) (hn : n < 14) (ho : o9 < 20) (ha : a < 20) (na : a ≠ o9) (hb : b < 20) (nb : b ≠ o9) (hop : gN S n 1 = 16) (hp : gQ S n 0 = nI p) (hq : gQ S n 1 = nI q) (p2 : p ≤ 2) (q2 : q ≤ 2) (hra : gT S a 1 = gT S o9 1) (hBa : ∀ x k, x < gT S a 1 → k < gT S a 2 → gB (gC S a (x * 4 + k))) (hBb : ∀ k, k < gT S b 2 → gB (gC S b (0 * 4 + k))) : pm_Cn l G fi fi 0 0 M_Wk_workOut [.ref (67 + 2 * n), .ref (8 + 3 * a), .ref (8 + 3 * b), .ref (xc), .ref (8 + 3 * o9)] h (g_P0 S o9 h (fun x y => g_dot (fun k => if q ≤ y * p + k ∧ y * p + k - q < gT S a 2 then gC S a (x * 4 + (y * p + k - q)) else FP.dconst0) (fun k => gC S b (0 * 4 + k)) (gT S b 2) 0 FP.dconst0)) := by
  refine pm_Cn.of hl (by decide) (Nat.le_of_ble_eq_true rfl) ?_
  have bo := hW.2.2.2.2.1 o9 ho
  have ba := hW.2.2.2.2.1 a ha
  refine px (fun _ => pm_aload_n (pc := 0) d_Wk_workOut_0 rfl) ?_
  refine px (fun _ => pm_getf fl_Wk_9 (pc := 1) d_Wk_workOut_1 (H.2.2.2.2.2.2.2 n hn).1 rfl) ?_
  have tx_4 : (nI (gN S n 1) : Int32).toInt = 16 := by rw [hop]; rfl
  refine px (fun _ => pm_tabIn (off := 221) (tgt := 225) (pc := 4) d_Wk_workOut_4 (by rw [tx_4]; decide) (by rw [tx_4]; decide) (by rw [tx_4]; rfl) (by decide)) ?_
  refine px (fun _ => pm_aload_n (pc := 225) d_Wk_workOut_225 rfl) ?_
  refine px (fun _ => pm_aload_n (pc := 226) d_Wk_workOut_226 rfl) ?_
  refine px (fun _ => pm_aload_n (pc := 227) d_Wk_workOut_227 rfl) ?_
  refine px (fun _ => pm_aload (pc := 228) d_Wk_workOut_228 rfl) ?_
  obtain ⟨⟨o7, h7⟩, ⟨e7, f7, H7, F7, iv7⟩, en7⟩ := w_sld (l := l) (G := G) (fi := fi) hl H hW ho ha na hb nb hn hp hq p2 q2 hra hBa hBb
  dsimp only at e7 H7 F7
  subst e7
  refine px (fun _ => k_Wk_workOut_230 (kc1 := 0) (ks1 := 0) (kc := 0) (ks := 0) (av := [.ref (67 + 2 * n), .ref (8 + 3 * a), .ref (8 + 3 * b), .ref (8 + 3 * o9)]) (st := []) (en7) rfl rfl (Nat.le_of_ble_eq_true rfl)) ?_
  refine px (fun _ => pm_goto (tgt := 279) (pc := 233) d_Wk_workOut_233 (by decide)) ?_
  refine px (fun _ => pm_iconst (v := 0) (pc := 279) d_Wk_workOut_279 rfl) ?_
  exact pxr (pm_iret (pc := 280) d_Wk_workOut_280 rfl rfl) ⟨f7, H7, F7, rfl, iv7⟩
set_option maxHeartbeats 4000000 in
set_option maxRecDepth 20000 in
theorem x_3 {l : Launch} {G : pm_G} {fi : Bool} {h : pm_H} {S : gS} {a b o9 n xc : Nat} (hl : l.stackTraces = false) (H : gH S h) (hW : gW S) (hn : n < 14) (ho : o9 < 20) (ha : a < 20) (na : a ≠ o9) (hb : b < 20) (nb : b ≠ o9) (hop : gN S n 1 = 3) (hne : ∀ x y, x < gT S o9 1 → y < gT S o9 2 → ¬ gT S a 0 = 1 → ¬ fEq (g_ag S b x y) FP.dconst0 → vf_n64 (FP.ddiv (g_ag S a x y) (g_ag S b x y))) : pm_Cn l G fi fi 0 0 M_Wk_workOut [.ref (67 + 2 * n), .ref (8 + 3 * a), .ref (8 + 3 * b), .ref (xc), .ref (8 + 3 * o9)] h (g_Pz S o9 h (fun x y => if gT S a 0 = 1 then FP.i2d (g_dv (FP.d2i (g_ag S a x y)) (FP.d2i (g_ag S b x y))) else FP.ddiv (g_ag S a x y) (g_ag S b x y)) (fun x y => ¬ fEq (g_ag S b x y) FP.dconst0) (gT S o9 1) (gT S o9 2)) := by
  refine pm_Cn.of hl (by decide) (Nat.le_of_ble_eq_true rfl) ?_
  have bo := hW.2.2.2.2.1 o9 ho
  have ba := hW.2.2.2.2.1 a ha
  refine px (fun _ => pm_aload_n (pc := 0) d_Wk_workOut_0 rfl) ?_
  refine px (fun _ => pm_getf fl_Wk_9 (pc := 1) d_Wk_workOut_1 (H.2.2.2.2.2.2.2 n hn).1 rfl) ?_
  have tx_4 : (nI (gN S n 1) : Int32).toInt = 3 := by rw [hop]; rfl
  refine px (fun _ => pm_tabIn (off := 80) (tgt := 84) (pc := 4) d_Wk_workOut_4 (by rw [tx_4]; decide) (by rw [tx_4]; decide) (by rw [tx_4]; rfl) (by decide)) ?_
  refine px (fun _ => pm_aload_n (pc := 84) d_Wk_workOut_84 rfl) ?_
  refine px (fun _ => pm_aload_n (pc := 85) d_Wk_workOut_85 rfl) ?_
  refine px (fun _ => pm_aload (pc := 86) d_Wk_workOut_86 rfl) ?_
  obtain ⟨⟨o7, h7⟩, p7, en7⟩ := w_div (l := l) (G := G) (fi := fi) hl H hW ho ha na hb nb hne
  try dsimp only at p7
  obtain ⟨f7, H7, F7, p7⟩ := p7
  rcases p7 with ⟨e7, p7⟩ | ⟨e7, p7⟩
  · subst e7
    refine px (fun _ => k_Wk_workOut_88 (kc1 := 0) (ks1 := 0) (kc := 0) (ks := 0) (av := [.ref (8 + 3 * a), .ref (8 + 3 * b), .ref (8 + 3 * o9)]) (st := []) (en7) rfl rfl (Nat.le_of_ble_eq_true rfl)) ?_
    exact pxr (pm_iret (pc := 91) d_Wk_workOut_91 rfl rfl) ⟨f7, H7, F7, Or.inl ⟨rfl, p7⟩⟩
  · subst e7
    refine px (fun _ => k_Wk_workOut_88 (kc1 := 0) (ks1 := 0) (kc := 0) (ks := 0) (av := [.ref (8 + 3 * a), .ref (8 + 3 * b), .ref (8 + 3 * o9)]) (st := []) (en7) rfl rfl (Nat.le_of_ble_eq_true rfl)) ?_
    exact pxr (pm_iret (pc := 91) d_Wk_workOut_91 rfl rfl) ⟨f7, H7, F7, Or.inr ⟨rfl, p7⟩⟩
set_option maxHeartbeats 4000000 in
set_option maxRecDepth 20000 in
theorem x_15 {l : Launch} {G : pm_G} {fi : Bool} {h : pm_H} {S : gS} {a b o9 n xc : Nat} (hl : l.stackTraces = false) (H : gH S h) (hW : gW S) (hn : n < 14) (ho : o9 < 20) (ha : a < 20) (na : a ≠ o9) (hb : b < 20) (nb : b ≠ o9) (hop : gN S n 1 = 15) (sb : gT S o9 1 = gT S b 2) (sc : gT S o9 2 = gT S a 2) : pm_Cn l G fi fi 0 0 M_Wk_workOut [.ref (67 + 2 * n), .ref (8 + 3 * a), .ref (8 + 3 * b), .ref (xc), .ref (8 + 3 * o9)] h (fun r => ∃ f, gH (gsC S o9 f) r.2 ∧ gFr h r.2 ∧ (r.1 = .inl (some (.int 0)) ∧ g_inv (g_pe S a b) (gT S o9 2) f (gT S o9 1) 0 ∧ (∀ x, x < gT S o9 1 → g_inR S a b x) ∨ r.1 = .inl (some (.int 2)) ∧ ∃ x, x < gT S o9 1 ∧ ¬ g_inR S a b x)) := by
  refine pm_Cn.of hl (by decide) (Nat.le_of_ble_eq_true rfl) ?_
  have bo := hW.2.2.2.2.1 o9 ho
  have ba := hW.2.2.2.2.1 a ha
  refine px (fun _ => pm_aload_n (pc := 0) d_Wk_workOut_0 rfl) ?_
  refine px (fun _ => pm_getf fl_Wk_9 (pc := 1) d_Wk_workOut_1 (H.2.2.2.2.2.2.2 n hn).1 rfl) ?_
  have tx_4 : (nI (gN S n 1) : Int32).toInt = 15 := by rw [hop]; rfl
  refine px (fun _ => pm_tabIn (off := 88) (tgt := 92) (pc := 4) d_Wk_workOut_4 (by rw [tx_4]; decide) (by rw [tx_4]; decide) (by rw [tx_4]; rfl) (by decide)) ?_
  refine px (fun _ => pm_aload_n (pc := 92) d_Wk_workOut_92 rfl) ?_
  refine px (fun _ => pm_aload_n (pc := 93) d_Wk_workOut_93 rfl) ?_
  refine px (fun _ => pm_aload (pc := 94) d_Wk_workOut_94 rfl) ?_
  obtain ⟨⟨o7, h7⟩, p7, en7⟩ := w_pick (l := l) (G := G) (fi := fi) hl H hW ho ha na hb nb sb sc
  try dsimp only at p7
  obtain ⟨f7, H7, F7, p7⟩ := p7
  rcases p7 with ⟨e7, p7⟩ | ⟨e7, p7⟩
  · subst e7
    refine px (fun _ => k_Wk_workOut_96 (kc1 := 0) (ks1 := 0) (kc := 0) (ks := 0) (av := [.ref (8 + 3 * a), .ref (8 + 3 * b), .ref (8 + 3 * o9)]) (st := []) (en7) rfl rfl (Nat.le_of_ble_eq_true rfl)) ?_
    exact pxr (pm_iret (pc := 99) d_Wk_workOut_99 rfl rfl) ⟨f7, H7, F7, Or.inl ⟨rfl, p7⟩⟩
  · subst e7
    refine px (fun _ => k_Wk_workOut_96 (kc1 := 0) (ks1 := 0) (kc := 0) (ks := 0) (av := [.ref (8 + 3 * a), .ref (8 + 3 * b), .ref (8 + 3 * o9)]) (st := []) (en7) rfl rfl (Nat.le_of_ble_eq_true rfl)) ?_
    exact pxr (pm_iret (pc := 99) d_Wk_workOut_99 rfl rfl) ⟨f7, H7, F7, Or.inr ⟨rfl, p7⟩⟩
set_option maxHeartbeats 4000000 in
set_option maxRecDepth 20000 in
theorem x_13_0 {l : Launch} {G : pm_G} {fi : Bool} {h : pm_H} {S : gS} {a b o9 n xc : Nat} (hl : l.stackTraces = false) (H : gH S h) (hW : gW S) (hn : n < 14) (ho : o9 < 20) (ha : a < 20) (na : a ≠ o9) (hb : b < 20) (nb : b ≠ o9) (hop : gN S n 1 = 13) (hp : gQ S n 0 = 0) (sr : gT S o9 1 = gT S a 1 + gT S b 1) (sc : gT S o9 2 = gT S a 2) (sd : gT S b 2 = gT S a 2) : pm_Cn l G fi fi 0 0 M_Wk_workOut [.ref (67 + 2 * n), .ref (8 + 3 * a), .ref (8 + 3 * b), .ref (xc), .ref (8 + 3 * o9)] h (g_P0 S o9 h (fun x y => if x < gT S a 1 then gC S a (x * 4 + y) else gC S b ((x - gT S a 1) * 4 + y))) := by
  refine pm_Cn.of hl (by decide) (Nat.le_of_ble_eq_true rfl) ?_
  have bo := hW.2.2.2.2.1 o9 ho
  have ba := hW.2.2.2.2.1 a ha
  have bb := hW.2.2.2.2.1 b hb
  refine px (fun _ => pm_aload_n (pc := 0) d_Wk_workOut_0 rfl) ?_
  refine px (fun _ => pm_getf fl_Wk_9 (pc := 1) d_Wk_workOut_1 (H.2.2.2.2.2.2.2 n hn).1 rfl) ?_
  have tx_4 : (nI (gN S n 1) : Int32).toInt = 13 := by rw [hop]; rfl
  refine px (fun _ => pm_tabIn (off := 161) (tgt := 165) (pc := 4) d_Wk_workOut_4 (by rw [tx_4]; decide) (by rw [tx_4]; decide) (by rw [tx_4]; rfl) (by decide)) ?_
  refine px (fun _ => pm_aload_n (pc := 165) d_Wk_workOut_165 rfl) ?_
  refine px (fun _ => pm_aload (pc := 166) d_Wk_workOut_166 rfl) ?_
  refine px (fun _ => pm_iconst (v := 0) (pc := 168) d_Wk_workOut_168 rfl) ?_
  refine px (fun _ => pm_iconst (v := 0) (pc := 169) d_Wk_workOut_169 rfl) ?_
  obtain ⟨⟨o7, h7⟩, ⟨e7, f7, H7, F7, iv7⟩, en7⟩ := w_copy (l := l) (G := G) (fi := fi) (a := a) (fr := 0) (fc := 0) (f0 := (gC S o9)) hl (by rw [gsC_self]; exact H) hW ho ha na (by omega) (by omega)
  dsimp only at e7 H7 F7
  subst e7
  refine px (fun _ => k_Wk_workOut_170 (kc1 := 0) (ks1 := 0) (kc := 0) (ks := 0) (av := [.ref (8 + 3 * a), .ref (8 + 3 * o9), .int (0), .int (0)]) (st := []) (en7) rfl rfl (Nat.le_of_ble_eq_true rfl)) ?_
  refine px (fun _ => pm_aload_n (pc := 173) d_Wk_workOut_173 rfl) ?_
  refine px (fun _ => pm_aload (pc := 174) d_Wk_workOut_174 rfl) ?_
  refine px (fun _ => pm_aload_n (pc := 176) d_Wk_workOut_176 rfl) ?_
  refine px (fun _ => pm_getf fl_Wk_36 (pc := 177) d_Wk_workOut_177 (H7.2.2.2.2.2.2.2 n hn).1 rfl) ?_
  refine pxn (fun _ => pm_if_ne (pc := 180) (tgt := 190) d_Wk_workOut_180 (by decide)) (fun c_1 => absurd (hp) c_1) (fun c_1 => ?_)
  refine px (fun _ => pm_aload_n (pc := 183) d_Wk_workOut_183 rfl) ?_
  refine px (fun _ => pm_getf fl_Wk_53 (pc := 184) d_Wk_workOut_184 (H7.2.2.2.2.2.2.1 a ha).2.1 rfl) ?_
  refine px (fun _ => pm_goto (tgt := 191) (pc := 187) d_Wk_workOut_187 (by decide)) ?_
  refine px (fun _ => pm_aload_n (pc := 191) d_Wk_workOut_191 rfl) ?_
  refine px (fun _ => pm_getf fl_Wk_36 (pc := 192) d_Wk_workOut_192 (H7.2.2.2.2.2.2.2 n hn).1 rfl) ?_
  refine pxn (fun _ => pm_if_ne (pc := 195) (tgt := 202) d_Wk_workOut_195 (by decide)) (fun c_2 => absurd (hp) c_2) (fun c_2 => ?_)
  refine px (fun _ => pm_iconst (v := 0) (pc := 198) d_Wk_workOut_198 rfl) ?_
  refine px (fun _ => pm_goto (tgt := 206) (pc := 199) d_Wk_workOut_199 (by decide)) ?_
  obtain ⟨⟨o8, h8⟩, ⟨e8, f8, H8, F8, iv8⟩, en8⟩ := w_copy (l := l) (G := G) (fi := fi) (a := b) (fr := (gT S a 1)) (fc := 0) (f0 := f7) hl H7 hW ho hb nb (by omega) (by omega)
  dsimp only at e8 H8 F8
  subst e8
  refine px (fun _ => k_Wk_workOut_206 (kc1 := 0) (ks1 := 0) (kc := 0) (ks := 0) (av := [.ref (8 + 3 * b), .ref (8 + 3 * o9), .int (nI (gT (gsC S o9 f7) a 1)), .int (0)]) (st := []) (en8) rfl rfl (Nat.le_of_ble_eq_true rfl)) ?_
  refine px (fun _ => pm_goto (tgt := 279) (pc := 209) d_Wk_workOut_209 (by decide)) ?_
  refine px (fun _ => pm_iconst (v := 0) (pc := 279) d_Wk_workOut_279 rfl) ?_
  refine pxr (pm_iret (pc := 280) d_Wk_workOut_280 rfl rfl) ⟨f8, H8, F7.tr F8, rfl, ?_⟩
  intro x y hy hb9
  rw [iv8 x y (by omega)]
  by_cases q : x < gT S a 1
  · show _ = if x < gT S a 1 then _ else _
    rw [if_neg (by omega), if_pos q, iv7 x y (by omega), if_pos (by omega), Nat.sub_zero, Nat.sub_zero]
  · show _ = if x < gT S a 1 then _ else _
    rw [if_pos (by omega), if_neg q, Nat.sub_zero]
set_option maxHeartbeats 4000000 in
set_option maxRecDepth 20000 in
theorem x_13_1 {l : Launch} {G : pm_G} {fi : Bool} {h : pm_H} {S : gS} {a b o9 n xc : Nat} (hl : l.stackTraces = false) (H : gH S h) (hW : gW S) (hn : n < 14) (ho : o9 < 20) (ha : a < 20) (na : a ≠ o9) (hb : b < 20) (nb : b ≠ o9) (hop : gN S n 1 = 13) (hp : ¬ gQ S n 0 = 0) (sr : gT S o9 1 = gT S a 1) (sd : gT S b 1 = gT S a 1) (sc : gT S o9 2 = gT S a 2 + gT S b 2) : pm_Cn l G fi fi 0 0 M_Wk_workOut [.ref (67 + 2 * n), .ref (8 + 3 * a), .ref (8 + 3 * b), .ref (xc), .ref (8 + 3 * o9)] h (g_P0 S o9 h (fun x y => if y < gT S a 2 then gC S a (x * 4 + y) else gC S b (x * 4 + (y - gT S a 2)))) := by
  refine pm_Cn.of hl (by decide) (Nat.le_of_ble_eq_true rfl) ?_
  have bo := hW.2.2.2.2.1 o9 ho
  have ba := hW.2.2.2.2.1 a ha
  have bb := hW.2.2.2.2.1 b hb
  refine px (fun _ => pm_aload_n (pc := 0) d_Wk_workOut_0 rfl) ?_
  refine px (fun _ => pm_getf fl_Wk_9 (pc := 1) d_Wk_workOut_1 (H.2.2.2.2.2.2.2 n hn).1 rfl) ?_
  have tx_4 : (nI (gN S n 1) : Int32).toInt = 13 := by rw [hop]; rfl
  refine px (fun _ => pm_tabIn (off := 161) (tgt := 165) (pc := 4) d_Wk_workOut_4 (by rw [tx_4]; decide) (by rw [tx_4]; decide) (by rw [tx_4]; rfl) (by decide)) ?_
  refine px (fun _ => pm_aload_n (pc := 165) d_Wk_workOut_165 rfl) ?_
  refine px (fun _ => pm_aload (pc := 166) d_Wk_workOut_166 rfl) ?_
  refine px (fun _ => pm_iconst (v := 0) (pc := 168) d_Wk_workOut_168 rfl) ?_
  refine px (fun _ => pm_iconst (v := 0) (pc := 169) d_Wk_workOut_169 rfl) ?_
  obtain ⟨⟨o7, h7⟩, ⟨e7, f7, H7, F7, iv7⟩, en7⟩ := w_copy (l := l) (G := G) (fi := fi) (a := a) (fr := 0) (fc := 0) (f0 := (gC S o9)) hl (by rw [gsC_self]; exact H) hW ho ha na (by omega) (by omega)
  dsimp only at e7 H7 F7
  subst e7
  refine px (fun _ => k_Wk_workOut_170 (kc1 := 0) (ks1 := 0) (kc := 0) (ks := 0) (av := [.ref (8 + 3 * a), .ref (8 + 3 * o9), .int (0), .int (0)]) (st := []) (en7) rfl rfl (Nat.le_of_ble_eq_true rfl)) ?_
  refine px (fun _ => pm_aload_n (pc := 173) d_Wk_workOut_173 rfl) ?_
  refine px (fun _ => pm_aload (pc := 174) d_Wk_workOut_174 rfl) ?_
  refine px (fun _ => pm_aload_n (pc := 176) d_Wk_workOut_176 rfl) ?_
  refine px (fun _ => pm_getf fl_Wk_36 (pc := 177) d_Wk_workOut_177 (H7.2.2.2.2.2.2.2 n hn).1 rfl) ?_
  refine pxn (fun _ => pm_if_ne (pc := 180) (tgt := 190) d_Wk_workOut_180 (by decide)) (fun c_1 => ?_) (fun c_1 => absurd c_1 (hp))
  refine px (fun _ => pm_iconst (v := 0) (pc := 190) d_Wk_workOut_190 rfl) ?_
  refine px (fun _ => pm_aload_n (pc := 191) d_Wk_workOut_191 rfl) ?_
  refine px (fun _ => pm_getf fl_Wk_36 (pc := 192) d_Wk_workOut_192 (H7.2.2.2.2.2.2.2 n hn).1 rfl) ?_
  refine pxn (fun _ => pm_if_ne (pc := 195) (tgt := 202) d_Wk_workOut_195 (by decide)) (fun c_2 => ?_) (fun c_2 => absurd c_2 (hp))
  refine px (fun _ => pm_aload_n (pc := 202) d_Wk_workOut_202 rfl) ?_
  refine px (fun _ => pm_getf fl_Wk_58 (pc := 203) d_Wk_workOut_203 (H7.2.2.2.2.2.2.1 a ha).2.1 rfl) ?_
  obtain ⟨⟨o8, h8⟩, ⟨e8, f8, H8, F8, iv8⟩, en8⟩ := w_copy (l := l) (G := G) (fi := fi) (a := b) (fr := 0) (fc := (gT S a 2)) (f0 := f7) hl H7 hW ho hb nb (by omega) (by omega)
  dsimp only at e8 H8 F8
  subst e8
  refine px (fun _ => k_Wk_workOut_206 (kc1 := 0) (ks1 := 0) (kc := 0) (ks := 0) (av := [.ref (8 + 3 * b), .ref (8 + 3 * o9), .int (0), .int (nI (gT (gsC S o9 f7) a 2))]) (st := []) (en8) rfl rfl (Nat.le_of_ble_eq_true rfl)) ?_
  refine px (fun _ => pm_goto (tgt := 279) (pc := 209) d_Wk_workOut_209 (by decide)) ?_
  refine px (fun _ => pm_iconst (v := 0) (pc := 279) d_Wk_workOut_279 rfl) ?_
  refine pxr (pm_iret (pc := 280) d_Wk_workOut_280 rfl rfl) ⟨f8, H8, F7.tr F8, rfl, ?_⟩
  intro x y hy hb9
  rw [iv8 x y (by omega)]
  by_cases q : y < gT S a 2
  · show _ = if y < gT S a 2 then _ else _
    rw [if_neg (by omega), if_pos q, iv7 x y (by omega), if_pos (by omega), Nat.sub_zero, Nat.sub_zero]
  · show _ = if y < gT S a 2 then _ else _
    rw [if_pos (by omega), if_neg q, Nat.sub_zero]
set_option maxHeartbeats 4000000 in
set_option maxRecDepth 20000 in
theorem x_17_1 {l : Launch} {G : pm_G} {fi : Bool} {h : pm_H} {S : gS} {a b c o9 n : Nat} (hl : l.stackTraces = false) (H : gH S h) (hW : gW S) (hn : n < 14) (ho : o9 < 20) (ha : a < 20) (na : a ≠ o9) (hb : b < 20) (nb : b ≠ o9) (hc : c < 20) (nc : c ≠ o9) (hop : gN S n 1 = 17) (hz : fEq (gC S c (0 * 4 + 0)) FP.dconst0) (sr : gT S o9 1 = gT S a 1) (sc : gT S o9 2 = gT S a 2) (sr2 : gT S b 1 = gT S a 1) (sc2 : gT S b 2 = gT S a 2) : pm_Cn l G fi fi 0 0 M_Wk_workOut [.ref (67 + 2 * n), .ref (8 + 3 * a), .ref (8 + 3 * b), .ref (8 + 3 * c), .ref (8 + 3 * o9)] h (g_P0 S o9 h (fun x y => gC S b (x * 4 + y))) := by
  refine pm_Cn.of hl (by decide) (Nat.le_of_ble_eq_true rfl) ?_
  have bo := hW.2.2.2.2.1 o9 ho
  have ba := hW.2.2.2.2.1 a ha
  have bb := hW.2.2.2.2.1 b hb
  refine px (fun _ => pm_aload_n (pc := 0) d_Wk_workOut_0 rfl) ?_
  refine px (fun _ => pm_getf fl_Wk_9 (pc := 1) d_Wk_workOut_1 (H.2.2.2.2.2.2.2 n hn).1 rfl) ?_
  have tx_4 : (nI (gN S n 1) : Int32).toInt = 17 := by rw [hop]; rfl
  refine px (fun _ => pm_tabIn (off := 232) (tgt := 236) (pc := 4) d_Wk_workOut_4 (by rw [tx_4]; decide) (by rw [tx_4]; decide) (by rw [tx_4]; rfl) (by decide)) ?_
  refine px (fun _ => pm_aload_n (pc := 236) d_Wk_workOut_236 rfl) ?_
  refine px (fun _ => k_Wk_workOut_237 (kc1 := 0) (ks1 := 0) (kc := 0) (ks := 0) (av := []) (st := []) (H.2.2.2.2.2.2.1 c hc).2.1 ((by have k9 := c_isZero (l := l) (G := G) (fi := fi) hl H hc; rw [if_pos hz] at k9; exact k9)) rfl rfl (Nat.le_of_ble_eq_true rfl)) ?_
  refine pxb (fun _ => pm_if_eq (pc := 240) (tgt := 247) d_Wk_workOut_240 (by decide)) (fun c_1 => absurd c_1 (by decide)) (fun c_1 => ?_)
  refine px (fun _ => pm_aload_n (pc := 243) d_Wk_workOut_243 rfl) ?_
  refine px (fun _ => pm_goto (tgt := 248) (pc := 244) d_Wk_workOut_244 (by decide)) ?_
  refine px (fun _ => pm_aload (pc := 248) d_Wk_workOut_248 rfl) ?_
  refine px (fun _ => pm_iconst (v := 0) (pc := 250) d_Wk_workOut_250 rfl) ?_
  refine px (fun _ => pm_iconst (v := 0) (pc := 251) d_Wk_workOut_251 rfl) ?_
  obtain ⟨⟨o7, h7⟩, ⟨e7, f7, H7, F7, iv7⟩, en7⟩ := w_copy (l := l) (G := G) (fi := fi) (a := b) (fr := 0) (fc := 0) (f0 := (gC S o9)) hl (by rw [gsC_self]; exact H) hW ho hb nb (by omega) (by omega)
  dsimp only at e7 H7 F7
  subst e7
  refine px (fun _ => k_Wk_workOut_252 (kc1 := 0) (ks1 := 0) (kc := 0) (ks := 0) (av := [.ref (8 + 3 * b), .ref (8 + 3 * o9), .int (0), .int (0)]) (st := []) (en7) rfl rfl (Nat.le_of_ble_eq_true rfl)) ?_
  refine px (fun _ => pm_goto (tgt := 279) (pc := 255) d_Wk_workOut_255 (by decide)) ?_
  refine px (fun _ => pm_iconst (v := 0) (pc := 279) d_Wk_workOut_279 rfl) ?_
  refine pxr (pm_iret (pc := 280) d_Wk_workOut_280 rfl rfl) ⟨f7, H7, F7, rfl, ?_⟩
  intro x y hy hb9
  rw [iv7 x y (by omega), if_pos (by omega), Nat.sub_zero, Nat.sub_zero]
set_option maxHeartbeats 4000000 in
set_option maxRecDepth 20000 in
theorem x_17_0 {l : Launch} {G : pm_G} {fi : Bool} {h : pm_H} {S : gS} {a b c o9 n : Nat} (hl : l.stackTraces = false) (H : gH S h) (hW : gW S) (hn : n < 14) (ho : o9 < 20) (ha : a < 20) (na : a ≠ o9) (hb : b < 20) (nb : b ≠ o9) (hc : c < 20) (nc : c ≠ o9) (hop : gN S n 1 = 17) (hz : ¬ fEq (gC S c (0 * 4 + 0)) FP.dconst0) (sr : gT S o9 1 = gT S a 1) (sc : gT S o9 2 = gT S a 2) (sr2 : gT S b 1 = gT S a 1) (sc2 : gT S b 2 = gT S a 2) : pm_Cn l G fi fi 0 0 M_Wk_workOut [.ref (67 + 2 * n), .ref (8 + 3 * a), .ref (8 + 3 * b), .ref (8 + 3 * c), .ref (8 + 3 * o9)] h (g_P0 S o9 h (fun x y => gC S a (x * 4 + y))) := by
  refine pm_Cn.of hl (by decide) (Nat.le_of_ble_eq_true rfl) ?_
  have bo := hW.2.2.2.2.1 o9 ho
  have ba := hW.2.2.2.2.1 a ha
  have bb := hW.2.2.2.2.1 b hb
  refine px (fun _ => pm_aload_n (pc := 0) d_Wk_workOut_0 rfl) ?_
  refine px (fun _ => pm_getf fl_Wk_9 (pc := 1) d_Wk_workOut_1 (H.2.2.2.2.2.2.2 n hn).1 rfl) ?_
  have tx_4 : (nI (gN S n 1) : Int32).toInt = 17 := by rw [hop]; rfl
  refine px (fun _ => pm_tabIn (off := 232) (tgt := 236) (pc := 4) d_Wk_workOut_4 (by rw [tx_4]; decide) (by rw [tx_4]; decide) (by rw [tx_4]; rfl) (by decide)) ?_
  refine px (fun _ => pm_aload_n (pc := 236) d_Wk_workOut_236 rfl) ?_
  refine px (fun _ => k_Wk_workOut_237 (kc1 := 0) (ks1 := 0) (kc := 0) (ks := 0) (av := []) (st := []) (H.2.2.2.2.2.2.1 c hc).2.1 ((by have k9 := c_isZero (l := l) (G := G) (fi := fi) hl H hc; rw [if_neg hz] at k9; exact k9)) rfl rfl (Nat.le_of_ble_eq_true rfl)) ?_
  refine pxb (fun _ => pm_if_eq (pc := 240) (tgt := 247) d_Wk_workOut_240 (by decide)) (fun c_1 => ?_) (fun c_1 => absurd (by decide) c_1)
  refine px (fun _ => pm_aload_n (pc := 247) d_Wk_workOut_247 rfl) ?_
  refine px (fun _ => pm_aload (pc := 248) d_Wk_workOut_248 rfl) ?_
  refine px (fun _ => pm_iconst (v := 0) (pc := 250) d_Wk_workOut_250 rfl) ?_
  refine px (fun _ => pm_iconst (v := 0) (pc := 251) d_Wk_workOut_251 rfl) ?_
  obtain ⟨⟨o7, h7⟩, ⟨e7, f7, H7, F7, iv7⟩, en7⟩ := w_copy (l := l) (G := G) (fi := fi) (a := a) (fr := 0) (fc := 0) (f0 := (gC S o9)) hl (by rw [gsC_self]; exact H) hW ho ha na (by omega) (by omega)
  dsimp only at e7 H7 F7
  subst e7
  refine px (fun _ => k_Wk_workOut_252 (kc1 := 0) (ks1 := 0) (kc := 0) (ks := 0) (av := [.ref (8 + 3 * a), .ref (8 + 3 * o9), .int (0), .int (0)]) (st := []) (en7) rfl rfl (Nat.le_of_ble_eq_true rfl)) ?_
  refine px (fun _ => pm_goto (tgt := 279) (pc := 255) d_Wk_workOut_255 (by decide)) ?_
  refine px (fun _ => pm_iconst (v := 0) (pc := 279) d_Wk_workOut_279 rfl) ?_
  refine pxr (pm_iret (pc := 280) d_Wk_workOut_280 rfl rfl) ⟨f7, H7, F7, rfl, ?_⟩
  intro x y hy hb9
  rw [iv7 x y (by omega), if_pos (by omega), Nat.sub_zero, Nat.sub_zero]
