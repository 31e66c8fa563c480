/-! ===== the constructors ===== -/
def pm_PxA (l : Launch) (G : pm_G) (fi fo : Bool) (kc ks : Nat) (M : pm_M) (pc : Nat) (lv : List (Nat × Value)) (st : List Value) (h : pm_H) (Post : pm_O × pm_H → Prop) : Prop := ∃ r, Post r ∧ pm_EvA l G fi fo kc ks M pc lv st h r
def pm_CnA (l : Launch) (G : pm_G) (fi fo : Bool) (kc ks : Nat) (M : pm_M) (av : List Value) (h : pm_H) (Post : pm_O × pm_H → Prop) : Prop := ∃ r, Post r ∧ pm_EnA l G fi fo kc ks M av h r
section PXA
variable {l : Launch} {G : pm_G} {fi fo fi' : Bool} {kc ks kc' ks' : Nat} {M : pm_M} {pc pc' : Nat} {lv lv' : List (Nat × Value)} {st st' : List Value} {h h' : pm_H} {Post : pm_O × pm_H → Prop}
theorem pxA (hk : ∀ r, pm_EvA l G fi' fo kc' ks' M pc' lv' st' h' r → pm_EvA l G fi fo kc ks M pc lv st h r) (k : pm_PxA l G fi' fo kc' ks' M pc' lv' st' h' Post) : pm_PxA l G fi fo kc ks M pc lv st h Post := by
  obtain ⟨r, h1, h2⟩ := k
  exact ⟨r, h1, hk r h2⟩
theorem pxA_of (k : pm_Px l G fi fo kc ks M pc lv st h Post) : pm_PxA l G fi fo kc ks M pc lv st h Post := by
  obtain ⟨r, h1, h2⟩ := k
  exact ⟨r, h1, pa_of h2⟩
theorem pm_CnA.of {av : List Value} (hl : l.stackTraces = false) (hy : plainName M.1.cls = true) (hn : (lg_sl av).length ≤ M.2.2.1) (k : pm_PxA l G fi fo kc ks M 0 (lv_args 0 av) [] h Post) : pm_CnA l G fi fo kc ks M av h Post := by
  obtain ⟨r, h1, h2⟩ := k
  exact ⟨r, h1, pm_EnA.of hl hy hn h2⟩
theorem pm_putFC {idx ci k a : Nat} {ty : FieldType} {fs : List Value} {v : Value} {c' : va_E} {r : pm_O × pm_H} (fl : pm_FF M.1.cls idx ci k ty) (hM : M.1.name = "<init>") (d : decode M.2.1 pc = .ok (.putfield idx, 3)) (he : h[a]? = some (.inr (ci, fs))) (hl : k < fs.length) (hn : narrow ty (pm_rv G v) = pm_rv G v) (hf : fits ty (pm_rv G v) = true) (hc : (.inr (ci, fs.set k v) : va_E) = c') (kk : pm_Ev l G fi fo kc ks M (pc + 3) lv st (h.set a c') r) : pm_Ev l G fi fo kc ks M pc lv (v :: .ref a :: st) h r := pm_putF fl hM d he hl hn hf (by rw [hc]; exact kk)
theorem pa_putFC {idx ci k a : Nat} {ty : FieldType} {fs : List Value} {v : Value} {c' : va_E} {r : pm_O × pm_H} (fl : pm_FF M.1.cls idx ci k ty) (hM : M.1.name = "<init>") (d : decode M.2.1 pc = .ok (.putfield idx, 3)) (he : h[a]? = some (.inr (ci, fs))) (hl : k < fs.length) (hn : narrow ty (pm_rv G v) = pm_rv G v) (hf : fits ty (pm_rv G v) = true) (hc : (.inr (ci, fs.set k v) : va_E) = c') (kk : pm_EvA l G fi fo kc ks M (pc + 3) lv st (h.set a c') r) : pm_EvA l G fi fo kc ks M pc lv (v :: .ref a :: st) h r := pa_putF fl hM d he hl hn hf (by rw [hc]; exact kk)
end PXA
set_option maxHeartbeats 1000000 in
set_option maxRecDepth 20000 in
theorem i_Tb {l : Launch} {G : pm_G} {a N : Nat} {h : pm_H} (hl : l.stackTraces = false) (ha : h[a]? = some (pm_Ob 2 [.null, .int 0, .int 0, .int 0])) (hN : h.length = N) (aN : a < N) : pm_Cn l G true true 1 16 M_Tb_init [.ref (a)] h (fun r => r.1 = .inl none ∧ r.2.length = N + 1 ∧ r.2[a]? = some (pm_Ob 2 [.ref (N), .int 0, .int 1, .int 1]) ∧ r.2[N]? = some (pm_Dd 16 (fun _ => 0)) ∧ ∀ k, k < N → k ≠ a → r.2[k]? = h[k]?) := by
  refine pm_Cn.of hl (by decide) (Nat.le_of_ble_eq_true rfl) ?_
  refine px (fun _ => pm_aload_n (pc := 0) d_Tb_init_0 rfl) ?_
  refine px (fun _ => pm_objI (pm_t1 (i := 35) rfl rfl) (pm_t1 (i := 24) rfl rfl) (pm_t1 (i := 25) rfl rfl) (pc := 1) d_Tb_init_1 (by decide) (by decide)) ?_
  refine px (fun _ => pm_aload_n (pc := 4) d_Tb_init_4 rfl) ?_
  refine px (fun _ => pm_bipush (v := 16) (pc := 5) d_Tb_init_5 rfl) ?_
  refine px (fun _ => pm_newa (kc := 0) (ks := 0) (kd := 1) (N := 16) (a0 := (16, .inr (.inr (.inr (.inl fun _ => 0))))) (pc := 7) d_Tb_init_7 (pm_t1 (i := 59) rfl rfl) (fun _ => rfl) (fun _ => rfl) (fun _ => rfl) rfl (by decide) (by decide)) ?_
  rw [hN]
  obtain ⟨h_1, e_1⟩ : ∃ h9, h9 = h ++ [pm_Dd 16 (fun _ => 0)] := ⟨_, rfl⟩
  rw [← e_1]
  have f_1_0 : h_1[a]? = some (pm_Ob 2 [.null, .int 0, .int 0, .int 0]) := by rw [e_1]; exact ap_old ha
  have l_1 : h_1.length = N + 1 := by rw [e_1]; exact ap_len hN
  have f_1_n : h_1[N]? = some (pm_Dd 16 (fun _ => 0)) := by rw [e_1]; exact ap_new hN
  have r_1 : ∀ k, k < N → k ≠ a → h_1[k]? = h[k]? := fun k h1 h2 => Eq.trans (b := h[k]?) (by rw [e_1, ap_fr hN (by omega)]) (rfl)
  refine px (fun _ => pm_putFC (c' := pm_Ob 2 [.ref (N), .int 0, .int 0, .int 0]) ff_Tb_9 rfl (pc := 9) d_Tb_init_9 f_1_0 (Nat.le_of_ble_eq_true rfl) rfl rfl rfl) ?_
  obtain ⟨h_2, e_2⟩ : ∃ h9, h9 = h_1.set (a) (pm_Ob 2 [.ref (N), .int 0, .int 0, .int 0]) := ⟨_, rfl⟩
  rw [← e_2]
  have f_2_1 : h_2[N]? = some (pm_Dd 16 (fun _ => 0)) := by rw [e_2]; exact g_sn f_1_n (by omega)
  have f_2_s : h_2[a]? = some (pm_Ob 2 [.ref (N), .int 0, .int 0, .int 0]) := by rw [e_2]; exact g_ss f_1_0
  have l_2 : h_2.length = N + 1 := by rw [e_2]; exact st_len l_1
  have r_2 : ∀ k, k < N → k ≠ a → h_2[k]? = h[k]? := fun k h1 h2 => Eq.trans (b := h_1[k]?) (by rw [e_2, List.getElem?_set_ne (by omega)]) (r_1 k h1 h2)
  refine px (fun _ => pm_aload_n (pc := 12) d_Tb_init_12 rfl) ?_
  refine px (fun _ => pm_iconst (v := 0) (pc := 13) d_Tb_init_13 rfl) ?_
  refine px (fun _ => pm_putfC (c' := pm_Ob 2 [.ref (N), .int 0, .int 0, .int 0]) fp_Tb_15 (pc := 14) d_Tb_init_14 f_2_s (Nat.le_of_ble_eq_true rfl) rfl rfl rfl) ?_
  obtain ⟨h_3, e_3⟩ : ∃ h9, h9 = h_2.set (a) (pm_Ob 2 [.ref (N), .int 0, .int 0, .int 0]) := ⟨_, rfl⟩
  rw [← e_3]
  have f_3_1 : h_3[N]? = some (pm_Dd 16 (fun _ => 0)) := by rw [e_3]; exact g_sn f_2_1 (by omega)
  have f_3_s : h_3[a]? = some (pm_Ob 2 [.ref (N), .int 0, .int 0, .int 0]) := by rw [e_3]; exact g_ss f_2_s
  have l_3 : h_3.length = N + 1 := by rw [e_3]; exact st_len l_2
  have r_3 : ∀ k, k < N → k ≠ a → h_3[k]? = h[k]? := fun k h1 h2 => Eq.trans (b := h_2[k]?) (by rw [e_3, List.getElem?_set_ne (by omega)]) (r_2 k h1 h2)
  refine px (fun _ => pm_aload_n (pc := 17) d_Tb_init_17 rfl) ?_
  refine px (fun _ => pm_iconst (v := 1) (pc := 18) d_Tb_init_18 rfl) ?_
  refine px (fun _ => pm_putfC (c' := pm_Ob 2 [.ref (N), .int 0, .int 1, .int 0]) fp_Tb_19 (pc := 19) d_Tb_init_19 f_3_s (Nat.le_of_ble_eq_true rfl) rfl rfl rfl) ?_
  obtain ⟨h_4, e_4⟩ : ∃ h9, h9 = h_3.set (a) (pm_Ob 2 [.ref (N), .int 0, .int 1, .int 0]) := ⟨_, rfl⟩
  rw [← e_4]
  have f_4_1 : h_4[N]? = some (pm_Dd 16 (fun _ => 0)) := by rw [e_4]; exact g_sn f_3_1 (by omega)
  have f_4_s : h_4[a]? = some (pm_Ob 2 [.ref (N), .int 0, .int 1, .int 0]) := by rw [e_4]; exact g_ss f_3_s
  have l_4 : h_4.length = N + 1 := by rw [e_4]; exact st_len l_3
  have r_4 : ∀ k, k < N → k ≠ a → h_4[k]? = h[k]? := fun k h1 h2 => Eq.trans (b := h_3[k]?) (by rw [e_4, List.getElem?_set_ne (by omega)]) (r_3 k h1 h2)
  refine px (fun _ => pm_aload_n (pc := 22) d_Tb_init_22 rfl) ?_
  refine px (fun _ => pm_iconst (v := 1) (pc := 23) d_Tb_init_23 rfl) ?_
  refine px (fun _ => pm_putfC (c' := pm_Ob 2 [.ref (N), .int 0, .int 1, .int 1]) fp_Tb_22 (pc := 24) d_Tb_init_24 f_4_s (Nat.le_of_ble_eq_true rfl) rfl rfl rfl) ?_
  obtain ⟨h_5, e_5⟩ : ∃ h9, h9 = h_4.set (a) (pm_Ob 2 [.ref (N), .int 0, .int 1, .int 1]) := ⟨_, rfl⟩
  rw [← e_5]
  have f_5_1 : h_5[N]? = some (pm_Dd 16 (fun _ => 0)) := by rw [e_5]; exact g_sn f_4_1 (by omega)
  have f_5_s : h_5[a]? = some (pm_Ob 2 [.ref (N), .int 0, .int 1, .int 1]) := by rw [e_5]; exact g_ss f_4_s
  have l_5 : h_5.length = N + 1 := by rw [e_5]; exact st_len l_4
  have r_5 : ∀ k, k < N → k ≠ a → h_5[k]? = h[k]? := fun k h1 h2 => Eq.trans (b := h_4[k]?) (by rw [e_5, List.getElem?_set_ne (by omega)]) (r_4 k h1 h2)
  exact pxr (pm_vret (pc := 27) d_Tb_init_27 rfl) ⟨rfl, l_5, f_5_s, f_5_1, fun k h1 h2 => r_5 k h1 h2⟩
set_option maxHeartbeats 1000000 in
set_option maxRecDepth 20000 in
theorem i_Nd {l : Launch} {G : pm_G} {a N : Nat} {h : pm_H} (hl : l.stackTraces = false) (ha : h[a]? = some (pm_Ob 0 [.null, .int 0, .int 0, .int 0, .int 0, .int 0, .int 0, .int 0, .int 0])) (hN : h.length = N) (aN : a < N) : pm_Cn l G true true 1 3 M_Nd_init [.ref (a)] h (fun r => r.1 = .inl none ∧ r.2.length = N + 1 ∧ r.2[a]? = some (pm_Ob 0 [.ref (N), .int 0, .int 0, .int 0, .int 0, .int 0, .int 0, .int 0, .int 0]) ∧ r.2[N]? = some (pm_I 3 (fun _ => 0)) ∧ ∀ k, k < N → k ≠ a → r.2[k]? = h[k]?) := by
  refine pm_Cn.of hl (by decide) (Nat.le_of_ble_eq_true rfl) ?_
  refine px (fun _ => pm_aload_n (pc := 0) d_Nd_init_0 rfl) ?_
  refine px (fun _ => pm_objI (pm_t1 (i := 84) rfl rfl) (pm_t1 (i := 24) rfl rfl) (pm_t1 (i := 25) rfl rfl) (pc := 1) d_Nd_init_1 (by decide) (by decide)) ?_
  refine px (fun _ => pm_aload_n (pc := 4) d_Nd_init_4 rfl) ?_
  refine px (fun _ => pm_iconst (v := 3) (pc := 5) d_Nd_init_5 rfl) ?_
  refine px (fun _ => pm_newa (kc := 0) (ks := 0) (kd := 0) (N := 3) (a0 := (3, .inl fun _ => 0)) (pc := 6) d_Nd_init_6 (pm_t1 (i := 58) rfl rfl) (fun _ => rfl) (fun _ => rfl) (fun _ => rfl) rfl (by decide) (by decide)) ?_
  rw [hN]
  obtain ⟨h_1, e_1⟩ : ∃ h9, h9 = h ++ [pm_I 3 (fun _ => 0)] := ⟨_, rfl⟩
  rw [← e_1]
  have f_1_0 : h_1[a]? = some (pm_Ob 0 [.null, .int 0, .int 0, .int 0, .int 0, .int 0, .int 0, .int 0, .int 0]) := by rw [e_1]; exact ap_old ha
  have l_1 : h_1.length = N + 1 := by rw [e_1]; exact ap_len hN
  have f_1_n : h_1[N]? = some (pm_I 3 (fun _ => 0)) := by rw [e_1]; exact ap_new hN
  have r_1 : ∀ k, k < N → k ≠ a → h_1[k]? = h[k]? := fun k h1 h2 => Eq.trans (b := h[k]?) (by rw [e_1, ap_fr hN (by omega)]) (rfl)
  refine px (fun _ => pm_putFC (c' := pm_Ob 0 [.ref (N), .int 0, .int 0, .int 0, .int 0, .int 0, .int 0, .int 0, .int 0]) ff_Nd_9 rfl (pc := 8) d_Nd_init_8 f_1_0 (Nat.le_of_ble_eq_true rfl) rfl rfl rfl) ?_
  obtain ⟨h_2, e_2⟩ : ∃ h9, h9 = h_1.set (a) (pm_Ob 0 [.ref (N), .int 0, .int 0, .int 0, .int 0, .int 0, .int 0, .int 0, .int 0]) := ⟨_, rfl⟩
  rw [← e_2]
  have f_2_1 : h_2[N]? = some (pm_I 3 (fun _ => 0)) := by rw [e_2]; exact g_sn f_1_n (by omega)
  have f_2_s : h_2[a]? = some (pm_Ob 0 [.ref (N), .int 0, .int 0, .int 0, .int 0, .int 0, .int 0, .int 0, .int 0]) := by rw [e_2]; exact g_ss f_1_0
  have l_2 : h_2.length = N + 1 := by rw [e_2]; exact st_len l_1
  have r_2 : ∀ k, k < N → k ≠ a → h_2[k]? = h[k]? := fun k h1 h2 => Eq.trans (b := h_1[k]?) (by rw [e_2, List.getElem?_set_ne (by omega)]) (r_1 k h1 h2)
  refine px (fun _ => pm_aload_n (pc := 11) d_Nd_init_11 rfl) ?_
  refine px (fun _ => pm_iconst (v := 0) (pc := 12) d_Nd_init_12 rfl) ?_
  refine px (fun _ => pm_putfC (c' := pm_Ob 0 [.ref (N), .int 0, .int 0, .int 0, .int 0, .int 0, .int 0, .int 0, .int 0]) fp_Nd_15 (pc := 13) d_Nd_init_13 f_2_s (Nat.le_of_ble_eq_true rfl) rfl rfl rfl) ?_
  obtain ⟨h_3, e_3⟩ : ∃ h9, h9 = h_2.set (a) (pm_Ob 0 [.ref (N), .int 0, .int 0, .int 0, .int 0, .int 0, .int 0, .int 0, .int 0]) := ⟨_, rfl⟩
  rw [← e_3]
  have f_3_1 : h_3[N]? = some (pm_I 3 (fun _ => 0)) := by rw [e_3]; exact g_sn f_2_1 (by omega)
  have f_3_s : h_3[a]? = some (pm_Ob 0 [.ref (N), .int 0, .int 0, .int 0, .int 0, .int 0, .int 0, .int 0, .int 0]) := by rw [e_3]; exact g_ss f_2_s
  have l_3 : h_3.length = N + 1 := by rw [e_3]; exact st_len l_2
  have r_3 : ∀ k, k < N → k ≠ a → h_3[k]? = h[k]? := fun k h1 h2 => Eq.trans (b := h_2[k]?) (by rw [e_3, List.getElem?_set_ne (by omega)]) (r_2 k h1 h2)
  refine px (fun _ => pm_aload_n (pc := 16) d_Nd_init_16 rfl) ?_
  refine px (fun _ => pm_iconst (v := 0) (pc := 17) d_Nd_init_17 rfl) ?_
  refine px (fun _ => pm_putfC (c' := pm_Ob 0 [.ref (N), .int 0, .int 0, .int 0, .int 0, .int 0, .int 0, .int 0, .int 0]) fp_Nd_19 (pc := 18) d_Nd_init_18 f_3_s (Nat.le_of_ble_eq_true rfl) rfl rfl rfl) ?_
  obtain ⟨h_4, e_4⟩ : ∃ h9, h9 = h_3.set (a) (pm_Ob 0 [.ref (N), .int 0, .int 0, .int 0, .int 0, .int 0, .int 0, .int 0, .int 0]) := ⟨_, rfl⟩
  rw [← e_4]
  have f_4_1 : h_4[N]? = some (pm_I 3 (fun _ => 0)) := by rw [e_4]; exact g_sn f_3_1 (by omega)
  have f_4_s : h_4[a]? = some (pm_Ob 0 [.ref (N), .int 0, .int 0, .int 0, .int 0, .int 0, .int 0, .int 0, .int 0]) := by rw [e_4]; exact g_ss f_3_s
  have l_4 : h_4.length = N + 1 := by rw [e_4]; exact st_len l_3
  have r_4 : ∀ k, k < N → k ≠ a → h_4[k]? = h[k]? := fun k h1 h2 => Eq.trans (b := h_3[k]?) (by rw [e_4, List.getElem?_set_ne (by omega)]) (r_3 k h1 h2)
  refine px (fun _ => pm_aload_n (pc := 21) d_Nd_init_21 rfl) ?_
  refine px (fun _ => pm_iconst (v := 0) (pc := 22) d_Nd_init_22 rfl) ?_
  refine px (fun _ => pm_putfC (c' := pm_Ob 0 [.ref (N), .int 0, .int 0, .int 0, .int 0, .int 0, .int 0, .int 0, .int 0]) fp_Nd_22 (pc := 23) d_Nd_init_23 f_4_s (Nat.le_of_ble_eq_true rfl) rfl rfl rfl) ?_
  obtain ⟨h_5, e_5⟩ : ∃ h9, h9 = h_4.set (a) (pm_Ob 0 [.ref (N), .int 0, .int 0, .int 0, .int 0, .int 0, .int 0, .int 0, .int 0]) := ⟨_, rfl⟩
  rw [← e_5]
  have f_5_1 : h_5[N]? = some (pm_I 3 (fun _ => 0)) := by rw [e_5]; exact g_sn f_4_1 (by omega)
  have f_5_s : h_5[a]? = some (pm_Ob 0 [.ref (N), .int 0, .int 0, .int 0, .int 0, .int 0, .int 0, .int 0, .int 0]) := by rw [e_5]; exact g_ss f_4_s
  have l_5 : h_5.length = N + 1 := by rw [e_5]; exact st_len l_4
  have r_5 : ∀ k, k < N → k ≠ a → h_5[k]? = h[k]? := fun k h1 h2 => Eq.trans (b := h_4[k]?) (by rw [e_5, List.getElem?_set_ne (by omega)]) (r_4 k h1 h2)
  refine px (fun _ => pm_aload_n (pc := 26) d_Nd_init_26 rfl) ?_
  refine px (fun _ => pm_iconst (v := 0) (pc := 27) d_Nd_init_27 rfl) ?_
  refine px (fun _ => pm_putfC (c' := pm_Ob 0 [.ref (N), .int 0, .int 0, .int 0, .int 0, .int 0, .int 0, .int 0, .int 0]) fp_Nd_25 (pc := 28) d_Nd_init_28 f_5_s (Nat.le_of_ble_eq_true rfl) rfl rfl rfl) ?_
  obtain ⟨h_6, e_6⟩ : ∃ h9, h9 = h_5.set (a) (pm_Ob 0 [.ref (N), .int 0, .int 0, .int 0, .int 0, .int 0, .int 0, .int 0, .int 0]) := ⟨_, rfl⟩
  rw [← e_6]
  have f_6_1 : h_6[N]? = some (pm_I 3 (fun _ => 0)) := by rw [e_6]; exact g_sn f_5_1 (by omega)
  have f_6_s : h_6[a]? = some (pm_Ob 0 [.ref (N), .int 0, .int 0, .int 0, .int 0, .int 0, .int 0, .int 0, .int 0]) := by rw [e_6]; exact g_ss f_5_s
  have l_6 : h_6.length = N + 1 := by rw [e_6]; exact st_len l_5
  have r_6 : ∀ k, k < N → k ≠ a → h_6[k]? = h[k]? := fun k h1 h2 => Eq.trans (b := h_5[k]?) (by rw [e_6, List.getElem?_set_ne (by omega)]) (r_5 k h1 h2)
  refine px (fun _ => pm_aload_n (pc := 31) d_Nd_init_31 rfl) ?_
  refine px (fun _ => pm_iconst (v := 0) (pc := 32) d_Nd_init_32 rfl) ?_
  refine px (fun _ => pm_putfC (c' := pm_Ob 0 [.ref (N), .int 0, .int 0, .int 0, .int 0, .int 0, .int 0, .int 0, .int 0]) fp_Nd_28 (pc := 33) d_Nd_init_33 f_6_s (Nat.le_of_ble_eq_true rfl) rfl rfl rfl) ?_
  obtain ⟨h_7, e_7⟩ : ∃ h9, h9 = h_6.set (a) (pm_Ob 0 [.ref (N), .int 0, .int 0, .int 0, .int 0, .int 0, .int 0, .int 0, .int 0]) := ⟨_, rfl⟩
  rw [← e_7]
  have f_7_1 : h_7[N]? = some (pm_I 3 (fun _ => 0)) := by rw [e_7]; exact g_sn f_6_1 (by omega)
  have f_7_s : h_7[a]? = some (pm_Ob 0 [.ref (N), .int 0, .int 0, .int 0, .int 0, .int 0, .int 0, .int 0, .int 0]) := by rw [e_7]; exact g_ss f_6_s
  have l_7 : h_7.length = N + 1 := by rw [e_7]; exact st_len l_6
  have r_7 : ∀ k, k < N → k ≠ a → h_7[k]? = h[k]? := fun k h1 h2 => Eq.trans (b := h_6[k]?) (by rw [e_7, List.getElem?_set_ne (by omega)]) (r_6 k h1 h2)
  refine px (fun _ => pm_aload_n (pc := 36) d_Nd_init_36 rfl) ?_
  refine px (fun _ => pm_iconst (v := 0) (pc := 37) d_Nd_init_37 rfl) ?_
  refine px (fun _ => pm_putfC (c' := pm_Ob 0 [.ref (N), .int 0, .int 0, .int 0, .int 0, .int 0, .int 0, .int 0, .int 0]) fp_Nd_31 (pc := 38) d_Nd_init_38 f_7_s (Nat.le_of_ble_eq_true rfl) rfl rfl rfl) ?_
  obtain ⟨h_8, e_8⟩ : ∃ h9, h9 = h_7.set (a) (pm_Ob 0 [.ref (N), .int 0, .int 0, .int 0, .int 0, .int 0, .int 0, .int 0, .int 0]) := ⟨_, rfl⟩
  rw [← e_8]
  have f_8_1 : h_8[N]? = some (pm_I 3 (fun _ => 0)) := by rw [e_8]; exact g_sn f_7_1 (by omega)
  have f_8_s : h_8[a]? = some (pm_Ob 0 [.ref (N), .int 0, .int 0, .int 0, .int 0, .int 0, .int 0, .int 0, .int 0]) := by rw [e_8]; exact g_ss f_7_s
  have l_8 : h_8.length = N + 1 := by rw [e_8]; exact st_len l_7
  have r_8 : ∀ k, k < N → k ≠ a → h_8[k]? = h[k]? := fun k h1 h2 => Eq.trans (b := h_7[k]?) (by rw [e_8, List.getElem?_set_ne (by omega)]) (r_7 k h1 h2)
  refine px (fun _ => pm_aload_n (pc := 41) d_Nd_init_41 rfl) ?_
  refine px (fun _ => pm_iconst (v := 0) (pc := 42) d_Nd_init_42 rfl) ?_
  refine px (fun _ => pm_putfC (c' := pm_Ob 0 [.ref (N), .int 0, .int 0, .int 0, .int 0, .int 0, .int 0, .int 0, .int 0]) fp_Nd_35 (pc := 43) d_Nd_init_43 f_8_s (Nat.le_of_ble_eq_true rfl) rfl rfl rfl) ?_
  obtain ⟨h_9, e_9⟩ : ∃ h9, h9 = h_8.set (a) (pm_Ob 0 [.ref (N), .int 0, .int 0, .int 0, .int 0, .int 0, .int 0, .int 0, .int 0]) := ⟨_, rfl⟩
  rw [← e_9]
  have f_9_1 : h_9[N]? = some (pm_I 3 (fun _ => 0)) := by rw [e_9]; exact g_sn f_8_1 (by omega)
  have f_9_s : h_9[a]? = some (pm_Ob 0 [.ref (N), .int 0, .int 0, .int 0, .int 0, .int 0, .int 0, .int 0, .int 0]) := by rw [e_9]; exact g_ss f_8_s
  have l_9 : h_9.length = N + 1 := by rw [e_9]; exact st_len l_8
  have r_9 : ∀ k, k < N → k ≠ a → h_9[k]? = h[k]? := fun k h1 h2 => Eq.trans (b := h_8[k]?) (by rw [e_9, List.getElem?_set_ne (by omega)]) (r_8 k h1 h2)
  refine px (fun _ => pm_aload_n (pc := 46) d_Nd_init_46 rfl) ?_
  refine px (fun _ => pm_iconst (v := 0) (pc := 47) d_Nd_init_47 rfl) ?_
  refine px (fun _ => pm_putfC (c' := pm_Ob 0 [.ref (N), .int 0, .int 0, .int 0, .int 0, .int 0, .int 0, .int 0, .int 0]) fp_Nd_38 (pc := 48) d_Nd_init_48 f_9_s (Nat.le_of_ble_eq_true rfl) rfl rfl rfl) ?_
  obtain ⟨h_10, e_10⟩ : ∃ h9, h9 = h_9.set (a) (pm_Ob 0 [.ref (N), .int 0, .int 0, .int 0, .int 0, .int 0, .int 0, .int 0, .int 0]) := ⟨_, rfl⟩
  rw [← e_10]
  have f_10_1 : h_10[N]? = some (pm_I 3 (fun _ => 0)) := by rw [e_10]; exact g_sn f_9_1 (by omega)
  have f_10_s : h_10[a]? = some (pm_Ob 0 [.ref (N), .int 0, .int 0, .int 0, .int 0, .int 0, .int 0, .int 0, .int 0]) := by rw [e_10]; exact g_ss f_9_s
  have l_10 : h_10.length = N + 1 := by rw [e_10]; exact st_len l_9
  have r_10 : ∀ k, k < N → k ≠ a → h_10[k]? = h[k]? := fun k h1 h2 => Eq.trans (b := h_9[k]?) (by rw [e_10, List.getElem?_set_ne (by omega)]) (r_9 k h1 h2)
  exact pxr (pm_vret (pc := 51) d_Nd_init_51 rfl) ⟨rfl, l_10, f_10_s, f_10_1, fun k h1 h2 => r_10 k h1 h2⟩
set_option maxHeartbeats 1000000 in
set_option maxRecDepth 20000 in
theorem i_Sl {l : Launch} {G : pm_G} {a N : Nat} {h : pm_H} (hl : l.stackTraces = false) (ha : h[a]? = some (pm_Ob 1 [.null, .int 0, .int 0])) (hN : h.length = N) (aN : a < N) : pm_Cn l G true true 2 20 M_Sl_init [.ref (a)] h (fun r => r.1 = .inl none ∧ r.2.length = N + 2 ∧ r.2[a]? = some (pm_Ob 1 [.ref (N), .int 0, .int 0]) ∧ r.2[N]? = some (pm_Ob 2 [.ref (N + 1), .int 0, .int 1, .int 1]) ∧ r.2[N + 1]? = some (pm_Dd 16 (fun _ => 0)) ∧ ∀ k, k < N → k ≠ a → r.2[k]? = h[k]?) := by
  refine pm_Cn.of hl (by decide) (Nat.le_of_ble_eq_true rfl) ?_
  refine px (fun _ => pm_aload_n (pc := 0) d_Sl_init_0 rfl) ?_
  refine px (fun _ => pm_objI (pm_t1 (i := 64) rfl rfl) (pm_t1 (i := 24) rfl rfl) (pm_t1 (i := 25) rfl rfl) (pc := 1) d_Sl_init_1 (by decide) (by decide)) ?_
  refine px (fun _ => pm_aload_n (pc := 4) d_Sl_init_4 rfl) ?_
  refine px (fun _ => pm_new (kc := 1) (ks := 16) (ci := 2) (T := T_Tb) (t0 := t_Tb) (fs := [.null, .int 0, .int 0, .int 0]) (pc := 5) d_Sl_init_5 rfl u_Tb t_Tb_ok (pm_t1 (i := 65) rfl rfl) (pm_t1 (i := 31) rfl rfl) (pm_t1 (i := 2) rfl rfl) (by intro j hj; rcases j with _ | _ | _ | _ | j <;> first | rfl | omega)) ?_
  rw [hN]
  obtain ⟨h_1, e_1⟩ : ∃ h9, h9 = h ++ [pm_Ob 2 [.null, .int 0, .int 0, .int 0]] := ⟨_, rfl⟩
  rw [← e_1]
  have f_1_0 : h_1[a]? = some (pm_Ob 1 [.null, .int 0, .int 0]) := by rw [e_1]; exact ap_old ha
  have l_1 : h_1.length = N + 1 := by rw [e_1]; exact ap_len hN
  have f_1_n : h_1[N]? = some (pm_Ob 2 [.null, .int 0, .int 0, .int 0]) := by rw [e_1]; exact ap_new hN
  have r_1 : ∀ k, k < N → k ≠ a → h_1[k]? = h[k]? := fun k h1 h2 => Eq.trans (b := h[k]?) (by rw [e_1, ap_fr hN (by omega)]) (rfl)
  refine px (fun _ => pm_dup (pc := 8) d_Sl_init_8 rfl) ?_
  obtain ⟨⟨o_2, h_2⟩, ⟨z_2, l_2, a_2, b_2_0, q_2⟩, en_2⟩ := i_Tb (l := l) (G := G) hl f_1_n l_1 (by omega)
  dsimp only at z_2 l_2 a_2 b_2_0 q_2
  subst z_2
  refine px (fun _ => k_Sl_init_9 (kc1 := 1) (ks1 := 16) (kc := 0) (ks := 0) (av := []) (st := [.ref (N), .ref (a)]) (en_2) rfl rfl (Nat.le_of_ble_eq_true rfl)) ?_
  have f_2_0 : h_2[a]? = some (pm_Ob 1 [.null, .int 0, .int 0]) := by rw [q_2 (a) (by omega) (by omega)]; exact f_1_0
  have r_2 : ∀ k, k < N → k ≠ a → h_2[k]? = h[k]? := fun k h1 h2 => by rw [q_2 k (by omega) (by omega)]; exact r_1 k h1 h2
  refine px (fun _ => pm_putFC (c' := pm_Ob 1 [.ref (N), .int 0, .int 0]) ff_Sl_12 rfl (pc := 12) d_Sl_init_12 f_2_0 (Nat.le_of_ble_eq_true rfl) rfl rfl rfl) ?_
  obtain ⟨h_3, e_3⟩ : ∃ h9, h9 = h_2.set (a) (pm_Ob 1 [.ref (N), .int 0, .int 0]) := ⟨_, rfl⟩
  rw [← e_3]
  have f_3_1 : h_3[N]? = some (pm_Ob 2 [.ref (N + 1), .int 0, .int 1, .int 1]) := by rw [e_3]; exact g_sn a_2 (by omega)
  have f_3_2 : h_3[N + 1]? = some (pm_Dd 16 (fun _ => 0)) := by rw [e_3]; exact g_sn b_2_0 (by omega)
  have f_3_s : h_3[a]? = some (pm_Ob 1 [.ref (N), .int 0, .int 0]) := by rw [e_3]; exact g_ss f_2_0
  have l_3 : h_3.length = N + 2 := by rw [e_3]; exact st_len l_2
  have r_3 : ∀ k, k < N → k ≠ a → h_3[k]? = h[k]? := fun k h1 h2 => Eq.trans (b := h_2[k]?) (by rw [e_3, List.getElem?_set_ne (by omega)]) (r_2 k h1 h2)
  refine px (fun _ => pm_aload_n (pc := 15) d_Sl_init_15 rfl) ?_
  refine px (fun _ => pm_iconst (v := 0) (pc := 16) d_Sl_init_16 rfl) ?_
  refine px (fun _ => pm_putfC (c' := pm_Ob 1 [.ref (N), .int 0, .int 0]) fp_Sl_18 (pc := 17) d_Sl_init_17 f_3_s (Nat.le_of_ble_eq_true rfl) rfl rfl rfl) ?_
  obtain ⟨h_4, e_4⟩ : ∃ h9, h9 = h_3.set (a) (pm_Ob 1 [.ref (N), .int 0, .int 0]) := ⟨_, rfl⟩
  rw [← e_4]
  have f_4_1 : h_4[N]? = some (pm_Ob 2 [.ref (N + 1), .int 0, .int 1, .int 1]) := by rw [e_4]; exact g_sn f_3_1 (by omega)
  have f_4_2 : h_4[N + 1]? = some (pm_Dd 16 (fun _ => 0)) := by rw [e_4]; exact g_sn f_3_2 (by omega)
  have f_4_s : h_4[a]? = some (pm_Ob 1 [.ref (N), .int 0, .int 0]) := by rw [e_4]; exact g_ss f_3_s
  have l_4 : h_4.length = N + 2 := by rw [e_4]; exact st_len l_3
  have r_4 : ∀ k, k < N → k ≠ a → h_4[k]? = h[k]? := fun k h1 h2 => Eq.trans (b := h_3[k]?) (by rw [e_4, List.getElem?_set_ne (by omega)]) (r_3 k h1 h2)
  refine px (fun _ => pm_aload_n (pc := 20) d_Sl_init_20 rfl) ?_
  refine px (fun _ => pm_iconst (v := 0) (pc := 21) d_Sl_init_21 rfl) ?_
  refine px (fun _ => pm_putfC (c' := pm_Ob 1 [.ref (N), .int 0, .int 0]) fp_Sl_22 (pc := 22) d_Sl_init_22 f_4_s (Nat.le_of_ble_eq_true rfl) rfl rfl rfl) ?_
  obtain ⟨h_5, e_5⟩ : ∃ h9, h9 = h_4.set (a) (pm_Ob 1 [.ref (N), .int 0, .int 0]) := ⟨_, rfl⟩
  rw [← e_5]
  have f_5_1 : h_5[N]? = some (pm_Ob 2 [.ref (N + 1), .int 0, .int 1, .int 1]) := by rw [e_5]; exact g_sn f_4_1 (by omega)
  have f_5_2 : h_5[N + 1]? = some (pm_Dd 16 (fun _ => 0)) := by rw [e_5]; exact g_sn f_4_2 (by omega)
  have f_5_s : h_5[a]? = some (pm_Ob 1 [.ref (N), .int 0, .int 0]) := by rw [e_5]; exact g_ss f_4_s
  have l_5 : h_5.length = N + 2 := by rw [e_5]; exact st_len l_4
  have r_5 : ∀ k, k < N → k ≠ a → h_5[k]? = h[k]? := fun k h1 h2 => Eq.trans (b := h_4[k]?) (by rw [e_5, List.getElem?_set_ne (by omega)]) (r_4 k h1 h2)
  exact pxr (pm_vret (pc := 25) d_Sl_init_25 rfl) ⟨rfl, l_5, f_5_s, f_5_1, f_5_2, fun k h1 h2 => r_5 k h1 h2⟩
def mT0 : mS := ((fun k => if k = 6 then 1 else 0), (fun _ _ => 0), (fun _ _ => 0), (fun _ => 0), (fun _ => 0))
set_option maxHeartbeats 1000000 in
set_option maxRecDepth 20000 in
theorem i_Mo {l : Launch} {G : pm_G}  {h : pm_H} (hl : l.stackTraces = false) (ha : h[95]? = some (pm_Ob 4 [.null, .null, .null, .null, .null, .null, .null, .null, .null, .null, .null, .null, .null, .null, .int 0, .int 0, .int 0, .int 0, .int 0, .int 0, .int 0])) (hN : h.length = 96) : pm_Cn l G true true 14 562 M_Mo_init [.ref (95)] h (fun r => r.1 = .inl none ∧ r.2.length = 110 ∧ mH mT0 r.2 ∧ ∀ k, k < 96 → k ≠ 95 → r.2[k]? = h[k]?) := by
  refine pm_Cn.of hl (by decide) (Nat.le_of_ble_eq_true rfl) ?_
  refine px (fun _ => pm_aload_n (pc := 0) d_Mo_init_0 rfl) ?_
  refine px (fun _ => pm_objI (pm_t1 (i := 615) rfl rfl) (pm_t1 (i := 24) rfl rfl) (pm_t1 (i := 25) rfl rfl) (pc := 1) d_Mo_init_1 (by decide) (by decide)) ?_
  refine px (fun _ => pm_aload_n (pc := 4) d_Mo_init_4 rfl) ?_
  refine px (fun _ => pm_bipush (v := 20) (pc := 5) d_Mo_init_5 rfl) ?_
  refine px (fun _ => pm_newa (kc := 13) (ks := 542) (kd := 0) (N := 20) (a0 := (20, .inl fun _ => 0)) (pc := 7) d_Mo_init_7 (pm_t1 (i := 58) rfl rfl) (fun _ => rfl) (fun _ => rfl) (fun _ => rfl) rfl (by decide) (by decide)) ?_
  rw [hN]
  obtain ⟨h_1, e_1⟩ : ∃ h9, h9 = h ++ [pm_I 20 (fun _ => 0)] := ⟨_, rfl⟩
  rw [← e_1]
  have f_1_0 : h_1[95]? = some (pm_Ob 4 [.null, .null, .null, .null, .null, .null, .null, .null, .null, .null, .null, .null, .null, .null, .int 0, .int 0, .int 0, .int 0, .int 0, .int 0, .int 0]) := by rw [e_1]; exact ap_old ha
  have l_1 : h_1.length = 96 + 1 := by rw [e_1]; exact ap_len hN
  have f_1_n : h_1[96]? = some (pm_I 20 (fun _ => 0)) := by rw [e_1]; exact ap_new hN
  have r_1 : ∀ k, k < 96 → k ≠ 95 → h_1[k]? = h[k]? := fun k h1 h2 => Eq.trans (b := h[k]?) (by rw [e_1, ap_fr hN (by omega)]) (rfl)
  refine px (fun _ => pm_putFC (c' := pm_Ob 4 [.ref 96, .null, .null, .null, .null, .null, .null, .null, .null, .null, .null, .null, .null, .null, .int 0, .int 0, .int 0, .int 0, .int 0, .int 0, .int 0]) ff_Mo_7 rfl (pc := 9) d_Mo_init_9 f_1_0 (Nat.le_of_ble_eq_true rfl) rfl rfl rfl) ?_
  obtain ⟨h_2, e_2⟩ : ∃ h9, h9 = h_1.set (95) (pm_Ob 4 [.ref 96, .null, .null, .null, .null, .null, .null, .null, .null, .null, .null, .null, .null, .null, .int 0, .int 0, .int 0, .int 0, .int 0, .int 0, .int 0]) := ⟨_, rfl⟩
  rw [← e_2]
  have f_2_1 : h_2[96]? = some (pm_I 20 (fun _ => 0)) := by rw [e_2]; exact g_sn f_1_n (by omega)
  have f_2_s : h_2[95]? = some (pm_Ob 4 [.ref 96, .null, .null, .null, .null, .null, .null, .null, .null, .null, .null, .null, .null, .null, .int 0, .int 0, .int 0, .int 0, .int 0, .int 0, .int 0]) := by rw [e_2]; exact g_ss f_1_0
  have l_2 : h_2.length = 97 := by rw [e_2]; exact st_len l_1
  have r_2 : ∀ k, k < 96 → k ≠ 95 → h_2[k]? = h[k]? := fun k h1 h2 => Eq.trans (b := h_1[k]?) (by rw [e_2, List.getElem?_set_ne (by omega)]) (r_1 k h1 h2)
  refine px (fun _ => pm_aload_n (pc := 12) d_Mo_init_12 rfl) ?_
  refine px (fun _ => pm_bipush (v := 20) (pc := 13) d_Mo_init_13 rfl) ?_
  refine px (fun _ => pm_newa (kc := 12) (ks := 522) (kd := 0) (N := 20) (a0 := (20, .inl fun _ => 0)) (pc := 15) d_Mo_init_15 (pm_t1 (i := 58) rfl rfl) (fun _ => rfl) (fun _ => rfl) (fun _ => rfl) rfl (by decide) (by decide)) ?_
  rw [l_2]
  obtain ⟨h_3, e_3⟩ : ∃ h9, h9 = h_2 ++ [pm_I 20 (fun _ => 0)] := ⟨_, rfl⟩
  rw [← e_3]
  have f_3_0 : h_3[95]? = some (pm_Ob 4 [.ref 96, .null, .null, .null, .null, .null, .null, .null, .null, .null, .null, .null, .null, .null, .int 0, .int 0, .int 0, .int 0, .int 0, .int 0, .int 0]) := by rw [e_3]; exact ap_old f_2_s
  have f_3_1 : h_3[96]? = some (pm_I 20 (fun _ => 0)) := by rw [e_3]; exact ap_old f_2_1
  have l_3 : h_3.length = 97 + 1 := by rw [e_3]; exact ap_len l_2
  have f_3_n : h_3[97]? = some (pm_I 20 (fun _ => 0)) := by rw [e_3]; exact ap_new l_2
  have r_3 : ∀ k, k < 96 → k ≠ 95 → h_3[k]? = h[k]? := fun k h1 h2 => Eq.trans (b := h_2[k]?) (by rw [e_3, ap_fr l_2 (by omega)]) (r_2 k h1 h2)
  refine px (fun _ => pm_putFC (c' := pm_Ob 4 [.ref 96, .ref 97, .null, .null, .null, .null, .null, .null, .null, .null, .null, .null, .null, .null, .int 0, .int 0, .int 0, .int 0, .int 0, .int 0, .int 0]) ff_Mo_13 rfl (pc := 17) d_Mo_init_17 f_3_0 (Nat.le_of_ble_eq_true rfl) rfl rfl rfl) ?_
  obtain ⟨h_4, e_4⟩ : ∃ h9, h9 = h_3.set (95) (pm_Ob 4 [.ref 96, .ref 97, .null, .null, .null, .null, .null, .null, .null, .null, .null, .null, .null, .null, .int 0, .int 0, .int 0, .int 0, .int 0, .int 0, .int 0]) := ⟨_, rfl⟩
  rw [← e_4]
  have f_4_1 : h_4[96]? = some (pm_I 20 (fun _ => 0)) := by rw [e_4]; exact g_sn f_3_1 (by omega)
  have f_4_2 : h_4[97]? = some (pm_I 20 (fun _ => 0)) := by rw [e_4]; exact g_sn f_3_n (by omega)
  have f_4_s : h_4[95]? = some (pm_Ob 4 [.ref 96, .ref 97, .null, .null, .null, .null, .null, .null, .null, .null, .null, .null, .null, .null, .int 0, .int 0, .int 0, .int 0, .int 0, .int 0, .int 0]) := by rw [e_4]; exact g_ss f_3_0
  have l_4 : h_4.length = 98 := by rw [e_4]; exact st_len l_3
  have r_4 : ∀ k, k < 96 → k ≠ 95 → h_4[k]? = h[k]? := fun k h1 h2 => Eq.trans (b := h_3[k]?) (by rw [e_4, List.getElem?_set_ne (by omega)]) (r_3 k h1 h2)
  refine px (fun _ => pm_aload_n (pc := 20) d_Mo_init_20 rfl) ?_
  refine px (fun _ => pm_bipush (v := 20) (pc := 21) d_Mo_init_21 rfl) ?_
  refine px (fun _ => pm_newa (kc := 11) (ks := 502) (kd := 0) (N := 20) (a0 := (20, .inl fun _ => 0)) (pc := 23) d_Mo_init_23 (pm_t1 (i := 58) rfl rfl) (fun _ => rfl) (fun _ => rfl) (fun _ => rfl) rfl (by decide) (by decide)) ?_
  rw [l_4]
  obtain ⟨h_5, e_5⟩ : ∃ h9, h9 = h_4 ++ [pm_I 20 (fun _ => 0)] := ⟨_, rfl⟩
  rw [← e_5]
  have f_5_0 : h_5[95]? = some (pm_Ob 4 [.ref 96, .ref 97, .null, .null, .null, .null, .null, .null, .null, .null, .null, .null, .null, .null, .int 0, .int 0, .int 0, .int 0, .int 0, .int 0, .int 0]) := by rw [e_5]; exact ap_old f_4_s
  have f_5_1 : h_5[96]? = some (pm_I 20 (fun _ => 0)) := by rw [e_5]; exact ap_old f_4_1
  have f_5_2 : h_5[97]? = some (pm_I 20 (fun _ => 0)) := by rw [e_5]; exact ap_old f_4_2
  have l_5 : h_5.length = 98 + 1 := by rw [e_5]; exact ap_len l_4
  have f_5_n : h_5[98]? = some (pm_I 20 (fun _ => 0)) := by rw [e_5]; exact ap_new l_4
  have r_5 : ∀ k, k < 96 → k ≠ 95 → h_5[k]? = h[k]? := fun k h1 h2 => Eq.trans (b := h_4[k]?) (by rw [e_5, ap_fr l_4 (by omega)]) (r_4 k h1 h2)
  refine px (fun _ => pm_putFC (c' := pm_Ob 4 [.ref 96, .ref 97, .ref 98, .null, .null, .null, .null, .null, .null, .null, .null, .null, .null, .null, .int 0, .int 0, .int 0, .int 0, .int 0, .int 0, .int 0]) ff_Mo_16 rfl (pc := 25) d_Mo_init_25 f_5_0 (Nat.le_of_ble_eq_true rfl) rfl rfl rfl) ?_
  obtain ⟨h_6, e_6⟩ : ∃ h9, h9 = h_5.set (95) (pm_Ob 4 [.ref 96, .ref 97, .ref 98, .null, .null, .null, .null, .null, .null, .null, .null, .null, .null, .null, .int 0, .int 0, .int 0, .int 0, .int 0, .int 0, .int 0]) := ⟨_, rfl⟩
  rw [← e_6]
  have f_6_1 : h_6[96]? = some (pm_I 20 (fun _ => 0)) := by rw [e_6]; exact g_sn f_5_1 (by omega)
  have f_6_2 : h_6[97]? = some (pm_I 20 (fun _ => 0)) := by rw [e_6]; exact g_sn f_5_2 (by omega)
  have f_6_3 : h_6[98]? = some (pm_I 20 (fun _ => 0)) := by rw [e_6]; exact g_sn f_5_n (by omega)
  have f_6_s : h_6[95]? = some (pm_Ob 4 [.ref 96, .ref 97, .ref 98, .null, .null, .null, .null, .null, .null, .null, .null, .null, .null, .null, .int 0, .int 0, .int 0, .int 0, .int 0, .int 0, .int 0]) := by rw [e_6]; exact g_ss f_5_0
  have l_6 : h_6.length = 99 := by rw [e_6]; exact st_len l_5
  have r_6 : ∀ k, k < 96 → k ≠ 95 → h_6[k]? = h[k]? := fun k h1 h2 => Eq.trans (b := h_5[k]?) (by rw [e_6, List.getElem?_set_ne (by omega)]) (r_5 k h1 h2)
  refine px (fun _ => pm_aload_n (pc := 28) d_Mo_init_28 rfl) ?_
  refine px (fun _ => pm_bipush (v := 20) (pc := 29) d_Mo_init_29 rfl) ?_
  refine px (fun _ => pm_newa (kc := 10) (ks := 482) (kd := 0) (N := 20) (a0 := (20, .inl fun _ => 0)) (pc := 31) d_Mo_init_31 (pm_t1 (i := 58) rfl rfl) (fun _ => rfl) (fun _ => rfl) (fun _ => rfl) rfl (by decide) (by decide)) ?_
  rw [l_6]
  obtain ⟨h_7, e_7⟩ : ∃ h9, h9 = h_6 ++ [pm_I 20 (fun _ => 0)] := ⟨_, rfl⟩
  rw [← e_7]
  have f_7_0 : h_7[95]? = some (pm_Ob 4 [.ref 96, .ref 97, .ref 98, .null, .null, .null, .null, .null, .null, .null, .null, .null, .null, .null, .int 0, .int 0, .int 0, .int 0, .int 0, .int 0, .int 0]) := by rw [e_7]; exact ap_old f_6_s
  have f_7_1 : h_7[96]? = some (pm_I 20 (fun _ => 0)) := by rw [e_7]; exact ap_old f_6_1
  have f_7_2 : h_7[97]? = some (pm_I 20 (fun _ => 0)) := by rw [e_7]; exact ap_old f_6_2
  have f_7_3 : h_7[98]? = some (pm_I 20 (fun _ => 0)) := by rw [e_7]; exact ap_old f_6_3
  have l_7 : h_7.length = 99 + 1 := by rw [e_7]; exact ap_len l_6
  have f_7_n : h_7[99]? = some (pm_I 20 (fun _ => 0)) := by rw [e_7]; exact ap_new l_6
  have r_7 : ∀ k, k < 96 → k ≠ 95 → h_7[k]? = h[k]? := fun k h1 h2 => Eq.trans (b := h_6[k]?) (by rw [e_7, ap_fr l_6 (by omega)]) (r_6 k h1 h2)
  refine px (fun _ => pm_putFC (c' := pm_Ob 4 [.ref 96, .ref 97, .ref 98, .ref 99, .null, .null, .null, .null, .null, .null, .null, .null, .null, .null, .int 0, .int 0, .int 0, .int 0, .int 0, .int 0, .int 0]) ff_Mo_19 rfl (pc := 33) d_Mo_init_33 f_7_0 (Nat.le_of_ble_eq_true rfl) rfl rfl rfl) ?_
  obtain ⟨h_8, e_8⟩ : ∃ h9, h9 = h_7.set (95) (pm_Ob 4 [.ref 96, .ref 97, .ref 98, .ref 99, .null, .null, .null, .null, .null, .null, .null, .null, .null, .null, .int 0, .int 0, .int 0, .int 0, .int 0, .int 0, .int 0]) := ⟨_, rfl⟩
  rw [← e_8]
  have f_8_1 : h_8[96]? = some (pm_I 20 (fun _ => 0)) := by rw [e_8]; exact g_sn f_7_1 (by omega)
  have f_8_2 : h_8[97]? = some (pm_I 20 (fun _ => 0)) := by rw [e_8]; exact g_sn f_7_2 (by omega)
  have f_8_3 : h_8[98]? = some (pm_I 20 (fun _ => 0)) := by rw [e_8]; exact g_sn f_7_3 (by omega)
  have f_8_4 : h_8[99]? = some (pm_I 20 (fun _ => 0)) := by rw [e_8]; exact g_sn f_7_n (by omega)
  have f_8_s : h_8[95]? = some (pm_Ob 4 [.ref 96, .ref 97, .ref 98, .ref 99, .null, .null, .null, .null, .null, .null, .null, .null, .null, .null, .int 0, .int 0, .int 0, .int 0, .int 0, .int 0, .int 0]) := by rw [e_8]; exact g_ss f_7_0
  have l_8 : h_8.length = 100 := by rw [e_8]; exact st_len l_7
  have r_8 : ∀ k, k < 96 → k ≠ 95 → h_8[k]? = h[k]? := fun k h1 h2 => Eq.trans (b := h_7[k]?) (by rw [e_8, List.getElem?_set_ne (by omega)]) (r_7 k h1 h2)
  refine px (fun _ => pm_aload_n (pc := 36) d_Mo_init_36 rfl) ?_
  refine px (fun _ => pm_bipush (v := 20) (pc := 37) d_Mo_init_37 rfl) ?_
  refine px (fun _ => pm_newa (kc := 9) (ks := 462) (kd := 0) (N := 20) (a0 := (20, .inl fun _ => 0)) (pc := 39) d_Mo_init_39 (pm_t1 (i := 58) rfl rfl) (fun _ => rfl) (fun _ => rfl) (fun _ => rfl) rfl (by decide) (by decide)) ?_
  rw [l_8]
  obtain ⟨h_9, e_9⟩ : ∃ h9, h9 = h_8 ++ [pm_I 20 (fun _ => 0)] := ⟨_, rfl⟩
  rw [← e_9]
  have f_9_0 : h_9[95]? = some (pm_Ob 4 [.ref 96, .ref 97, .ref 98, .ref 99, .null, .null, .null, .null, .null, .null, .null, .null, .null, .null, .int 0, .int 0, .int 0, .int 0, .int 0, .int 0, .int 0]) := by rw [e_9]; exact ap_old f_8_s
  have f_9_1 : h_9[96]? = some (pm_I 20 (fun _ => 0)) := by rw [e_9]; exact ap_old f_8_1
  have f_9_2 : h_9[97]? = some (pm_I 20 (fun _ => 0)) := by rw [e_9]; exact ap_old f_8_2
  have f_9_3 : h_9[98]? = some (pm_I 20 (fun _ => 0)) := by rw [e_9]; exact ap_old f_8_3
  have f_9_4 : h_9[99]? = some (pm_I 20 (fun _ => 0)) := by rw [e_9]; exact ap_old f_8_4
  have l_9 : h_9.length = 100 + 1 := by rw [e_9]; exact ap_len l_8
  have f_9_n : h_9[100]? = some (pm_I 20 (fun _ => 0)) := by rw [e_9]; exact ap_new l_8
  have r_9 : ∀ k, k < 96 → k ≠ 95 → h_9[k]? = h[k]? := fun k h1 h2 => Eq.trans (b := h_8[k]?) (by rw [e_9, ap_fr l_8 (by omega)]) (r_8 k h1 h2)
  refine px (fun _ => pm_putFC (c' := pm_Ob 4 [.ref 96, .ref 97, .ref 98, .ref 99, .ref 100, .null, .null, .null, .null, .null, .null, .null, .null, .null, .int 0, .int 0, .int 0, .int 0, .int 0, .int 0, .int 0]) ff_Mo_22 rfl (pc := 41) d_Mo_init_41 f_9_0 (Nat.le_of_ble_eq_true rfl) rfl rfl rfl) ?_
  obtain ⟨h_10, e_10⟩ : ∃ h9, h9 = h_9.set (95) (pm_Ob 4 [.ref 96, .ref 97, .ref 98, .ref 99, .ref 100, .null, .null, .null, .null, .null, .null, .null, .null, .null, .int 0, .int 0, .int 0, .int 0, .int 0, .int 0, .int 0]) := ⟨_, rfl⟩
  rw [← e_10]
  have f_10_1 : h_10[96]? = some (pm_I 20 (fun _ => 0)) := by rw [e_10]; exact g_sn f_9_1 (by omega)
  have f_10_2 : h_10[97]? = some (pm_I 20 (fun _ => 0)) := by rw [e_10]; exact g_sn f_9_2 (by omega)
  have f_10_3 : h_10[98]? = some (pm_I 20 (fun _ => 0)) := by rw [e_10]; exact g_sn f_9_3 (by omega)
  have f_10_4 : h_10[99]? = some (pm_I 20 (fun _ => 0)) := by rw [e_10]; exact g_sn f_9_4 (by omega)
  have f_10_5 : h_10[100]? = some (pm_I 20 (fun _ => 0)) := by rw [e_10]; exact g_sn f_9_n (by omega)
  have f_10_s : h_10[95]? = some (pm_Ob 4 [.ref 96, .ref 97, .ref 98, .ref 99, .ref 100, .null, .null, .null, .null, .null, .null, .null, .null, .null, .int 0, .int 0, .int 0, .int 0, .int 0, .int 0, .int 0]) := by rw [e_10]; exact g_ss f_9_0
  have l_10 : h_10.length = 101 := by rw [e_10]; exact st_len l_9
  have r_10 : ∀ k, k < 96 → k ≠ 95 → h_10[k]? = h[k]? := fun k h1 h2 => Eq.trans (b := h_9[k]?) (by rw [e_10, List.getElem?_set_ne (by omega)]) (r_9 k h1 h2)
  refine px (fun _ => pm_aload_n (pc := 44) d_Mo_init_44 rfl) ?_
  refine px (fun _ => pm_sipush (v := 320) (pc := 45) d_Mo_init_45 rfl) ?_
  refine px (fun _ => pm_newa (kc := 8) (ks := 142) (kd := 1) (N := 320) (a0 := (320, .inr (.inr (.inr (.inl fun _ => 0))))) (pc := 48) d_Mo_init_48 (pm_t1 (i := 59) rfl rfl) (fun _ => rfl) (fun _ => rfl) (fun _ => rfl) rfl (by decide) (by decide)) ?_
  rw [l_10]
  obtain ⟨h_11, e_11⟩ : ∃ h9, h9 = h_10 ++ [pm_Dd 320 (fun _ => 0)] := ⟨_, rfl⟩
  rw [← e_11]
  have f_11_0 : h_11[95]? = some (pm_Ob 4 [.ref 96, .ref 97, .ref 98, .ref 99, .ref 100, .null, .null, .null, .null, .null, .null, .null, .null, .null, .int 0, .int 0, .int 0, .int 0, .int 0, .int 0, .int 0]) := by rw [e_11]; exact ap_old f_10_s
  have f_11_1 : h_11[96]? = some (pm_I 20 (fun _ => 0)) := by rw [e_11]; exact ap_old f_10_1
  have f_11_2 : h_11[97]? = some (pm_I 20 (fun _ => 0)) := by rw [e_11]; exact ap_old f_10_2
  have f_11_3 : h_11[98]? = some (pm_I 20 (fun _ => 0)) := by rw [e_11]; exact ap_old f_10_3
  have f_11_4 : h_11[99]? = some (pm_I 20 (fun _ => 0)) := by rw [e_11]; exact ap_old f_10_4
  have f_11_5 : h_11[100]? = some (pm_I 20 (fun _ => 0)) := by rw [e_11]; exact ap_old f_10_5
  have l_11 : h_11.length = 101 + 1 := by rw [e_11]; exact ap_len l_10
  have f_11_n : h_11[101]? = some (pm_Dd 320 (fun _ => 0)) := by rw [e_11]; exact ap_new l_10
  have r_11 : ∀ k, k < 96 → k ≠ 95 → h_11[k]? = h[k]? := fun k h1 h2 => Eq.trans (b := h_10[k]?) (by rw [e_11, ap_fr l_10 (by omega)]) (r_10 k h1 h2)
  refine px (fun _ => pm_putFC (c' := pm_Ob 4 [.ref 96, .ref 97, .ref 98, .ref 99, .ref 100, .ref 101, .null, .null, .null, .null, .null, .null, .null, .null, .int 0, .int 0, .int 0, .int 0, .int 0, .int 0, .int 0]) ff_Mo_25 rfl (pc := 50) d_Mo_init_50 f_11_0 (Nat.le_of_ble_eq_true rfl) rfl rfl rfl) ?_
  obtain ⟨h_12, e_12⟩ : ∃ h9, h9 = h_11.set (95) (pm_Ob 4 [.ref 96, .ref 97, .ref 98, .ref 99, .ref 100, .ref 101, .null, .null, .null, .null, .null, .null, .null, .null, .int 0, .int 0, .int 0, .int 0, .int 0, .int 0, .int 0]) := ⟨_, rfl⟩
  rw [← e_12]
  have f_12_1 : h_12[96]? = some (pm_I 20 (fun _ => 0)) := by rw [e_12]; exact g_sn f_11_1 (by omega)
  have f_12_2 : h_12[97]? = some (pm_I 20 (fun _ => 0)) := by rw [e_12]; exact g_sn f_11_2 (by omega)
  have f_12_3 : h_12[98]? = some (pm_I 20 (fun _ => 0)) := by rw [e_12]; exact g_sn f_11_3 (by omega)
  have f_12_4 : h_12[99]? = some (pm_I 20 (fun _ => 0)) := by rw [e_12]; exact g_sn f_11_4 (by omega)
  have f_12_5 : h_12[100]? = some (pm_I 20 (fun _ => 0)) := by rw [e_12]; exact g_sn f_11_5 (by omega)
  have f_12_6 : h_12[101]? = some (pm_Dd 320 (fun _ => 0)) := by rw [e_12]; exact g_sn f_11_n (by omega)
  have f_12_s : h_12[95]? = some (pm_Ob 4 [.ref 96, .ref 97, .ref 98, .ref 99, .ref 100, .ref 101, .null, .null, .null, .null, .null, .null, .null, .null, .int 0, .int 0, .int 0, .int 0, .int 0, .int 0, .int 0]) := by rw [e_12]; exact g_ss f_11_0
  have l_12 : h_12.length = 102 := by rw [e_12]; exact st_len l_11
  have r_12 : ∀ k, k < 96 → k ≠ 95 → h_12[k]? = h[k]? := fun k h1 h2 => Eq.trans (b := h_11[k]?) (by rw [e_12, List.getElem?_set_ne (by omega)]) (r_11 k h1 h2)
  refine px (fun _ => pm_aload_n (pc := 53) d_Mo_init_53 rfl) ?_
  refine px (fun _ => pm_bipush (v := 14) (pc := 54) d_Mo_init_54 rfl) ?_
  refine px (fun _ => pm_newa (kc := 7) (ks := 128) (kd := 0) (N := 14) (a0 := (14, .inl fun _ => 0)) (pc := 56) d_Mo_init_56 (pm_t1 (i := 58) rfl rfl) (fun _ => rfl) (fun _ => rfl) (fun _ => rfl) rfl (by decide) (by decide)) ?_
  rw [l_12]
  obtain ⟨h_13, e_13⟩ : ∃ h9, h9 = h_12 ++ [pm_I 14 (fun _ => 0)] := ⟨_, rfl⟩
  rw [← e_13]
  have f_13_0 : h_13[95]? = some (pm_Ob 4 [.ref 96, .ref 97, .ref 98, .ref 99, .ref 100, .ref 101, .null, .null, .null, .null, .null, .null, .null, .null, .int 0, .int 0, .int 0, .int 0, .int 0, .int 0, .int 0]) := by rw [e_13]; exact ap_old f_12_s
  have f_13_1 : h_13[96]? = some (pm_I 20 (fun _ => 0)) := by rw [e_13]; exact ap_old f_12_1
  have f_13_2 : h_13[97]? = some (pm_I 20 (fun _ => 0)) := by rw [e_13]; exact ap_old f_12_2
  have f_13_3 : h_13[98]? = some (pm_I 20 (fun _ => 0)) := by rw [e_13]; exact ap_old f_12_3
  have f_13_4 : h_13[99]? = some (pm_I 20 (fun _ => 0)) := by rw [e_13]; exact ap_old f_12_4
  have f_13_5 : h_13[100]? = some (pm_I 20 (fun _ => 0)) := by rw [e_13]; exact ap_old f_12_5
  have f_13_6 : h_13[101]? = some (pm_Dd 320 (fun _ => 0)) := by rw [e_13]; exact ap_old f_12_6
  have l_13 : h_13.length = 102 + 1 := by rw [e_13]; exact ap_len l_12
  have f_13_n : h_13[102]? = some (pm_I 14 (fun _ => 0)) := by rw [e_13]; exact ap_new l_12
  have r_13 : ∀ k, k < 96 → k ≠ 95 → h_13[k]? = h[k]? := fun k h1 h2 => Eq.trans (b := h_12[k]?) (by rw [e_13, ap_fr l_12 (by omega)]) (r_12 k h1 h2)
  refine px (fun _ => pm_putFC (c' := pm_Ob 4 [.ref 96, .ref 97, .ref 98, .ref 99, .ref 100, .ref 101, .ref 102, .null, .null, .null, .null, .null, .null, .null, .int 0, .int 0, .int 0, .int 0, .int 0, .int 0, .int 0]) ff_Mo_29 rfl (pc := 58) d_Mo_init_58 f_13_0 (Nat.le_of_ble_eq_true rfl) rfl rfl rfl) ?_
  obtain ⟨h_14, e_14⟩ : ∃ h9, h9 = h_13.set (95) (pm_Ob 4 [.ref 96, .ref 97, .ref 98, .ref 99, .ref 100, .ref 101, .ref 102, .null, .null, .null, .null, .null, .null, .null, .int 0, .int 0, .int 0, .int 0, .int 0, .int 0, .int 0]) := ⟨_, rfl⟩
  rw [← e_14]
  have f_14_1 : h_14[96]? = some (pm_I 20 (fun _ => 0)) := by rw [e_14]; exact g_sn f_13_1 (by omega)
  have f_14_2 : h_14[97]? = some (pm_I 20 (fun _ => 0)) := by rw [e_14]; exact g_sn f_13_2 (by omega)
  have f_14_3 : h_14[98]? = some (pm_I 20 (fun _ => 0)) := by rw [e_14]; exact g_sn f_13_3 (by omega)
  have f_14_4 : h_14[99]? = some (pm_I 20 (fun _ => 0)) := by rw [e_14]; exact g_sn f_13_4 (by omega)
  have f_14_5 : h_14[100]? = some (pm_I 20 (fun _ => 0)) := by rw [e_14]; exact g_sn f_13_5 (by omega)
  have f_14_6 : h_14[101]? = some (pm_Dd 320 (fun _ => 0)) := by rw [e_14]; exact g_sn f_13_6 (by omega)
  have f_14_7 : h_14[102]? = some (pm_I 14 (fun _ => 0)) := by rw [e_14]; exact g_sn f_13_n (by omega)
  have f_14_s : h_14[95]? = some (pm_Ob 4 [.ref 96, .ref 97, .ref 98, .ref 99, .ref 100, .ref 101, .ref 102, .null, .null, .null, .null, .null, .null, .null, .int 0, .int 0, .int 0, .int 0, .int 0, .int 0, .int 0]) := by rw [e_14]; exact g_ss f_13_0
  have l_14 : h_14.length = 103 := by rw [e_14]; exact st_len l_13
  have r_14 : ∀ k, k < 96 → k ≠ 95 → h_14[k]? = h[k]? := fun k h1 h2 => Eq.trans (b := h_13[k]?) (by rw [e_14, List.getElem?_set_ne (by omega)]) (r_13 k h1 h2)
  refine px (fun _ => pm_aload_n (pc := 61) d_Mo_init_61 rfl) ?_
  refine px (fun _ => pm_bipush (v := 14) (pc := 62) d_Mo_init_62 rfl) ?_
  refine px (fun _ => pm_newa (kc := 6) (ks := 114) (kd := 0) (N := 14) (a0 := (14, .inl fun _ => 0)) (pc := 64) d_Mo_init_64 (pm_t1 (i := 58) rfl rfl) (fun _ => rfl) (fun _ => rfl) (fun _ => rfl) rfl (by decide) (by decide)) ?_
  rw [l_14]
  obtain ⟨h_15, e_15⟩ : ∃ h9, h9 = h_14 ++ [pm_I 14 (fun _ => 0)] := ⟨_, rfl⟩
  rw [← e_15]
  have f_15_0 : h_15[95]? = some (pm_Ob 4 [.ref 96, .ref 97, .ref 98, .ref 99, .ref 100, .ref 101, .ref 102, .null, .null, .null, .null, .null, .null, .null, .int 0, .int 0, .int 0, .int 0, .int 0, .int 0, .int 0]) := by rw [e_15]; exact ap_old f_14_s
  have f_15_1 : h_15[96]? = some (pm_I 20 (fun _ => 0)) := by rw [e_15]; exact ap_old f_14_1
  have f_15_2 : h_15[97]? = some (pm_I 20 (fun _ => 0)) := by rw [e_15]; exact ap_old f_14_2
  have f_15_3 : h_15[98]? = some (pm_I 20 (fun _ => 0)) := by rw [e_15]; exact ap_old f_14_3
  have f_15_4 : h_15[99]? = some (pm_I 20 (fun _ => 0)) := by rw [e_15]; exact ap_old f_14_4
  have f_15_5 : h_15[100]? = some (pm_I 20 (fun _ => 0)) := by rw [e_15]; exact ap_old f_14_5
  have f_15_6 : h_15[101]? = some (pm_Dd 320 (fun _ => 0)) := by rw [e_15]; exact ap_old f_14_6
  have f_15_7 : h_15[102]? = some (pm_I 14 (fun _ => 0)) := by rw [e_15]; exact ap_old f_14_7
  have l_15 : h_15.length = 103 + 1 := by rw [e_15]; exact ap_len l_14
  have f_15_n : h_15[103]? = some (pm_I 14 (fun _ => 0)) := by rw [e_15]; exact ap_new l_14
  have r_15 : ∀ k, k < 96 → k ≠ 95 → h_15[k]? = h[k]? := fun k h1 h2 => Eq.trans (b := h_14[k]?) (by rw [e_15, ap_fr l_14 (by omega)]) (r_14 k h1 h2)
  refine px (fun _ => pm_putFC (c' := pm_Ob 4 [.ref 96, .ref 97, .ref 98, .ref 99, .ref 100, .ref 101, .ref 102, .ref 103, .null, .null, .null, .null, .null, .null, .int 0, .int 0, .int 0, .int 0, .int 0, .int 0, .int 0]) ff_Mo_32 rfl (pc := 66) d_Mo_init_66 f_15_0 (Nat.le_of_ble_eq_true rfl) rfl rfl rfl) ?_
  obtain ⟨h_16, e_16⟩ : ∃ h9, h9 = h_15.set (95) (pm_Ob 4 [.ref 96, .ref 97, .ref 98, .ref 99, .ref 100, .ref 101, .ref 102, .ref 103, .null, .null, .null, .null, .null, .null, .int 0, .int 0, .int 0, .int 0, .int 0, .int 0, .int 0]) := ⟨_, rfl⟩
  rw [← e_16]
  have f_16_1 : h_16[96]? = some (pm_I 20 (fun _ => 0)) := by rw [e_16]; exact g_sn f_15_1 (by omega)
  have f_16_2 : h_16[97]? = some (pm_I 20 (fun _ => 0)) := by rw [e_16]; exact g_sn f_15_2 (by omega)
  have f_16_3 : h_16[98]? = some (pm_I 20 (fun _ => 0)) := by rw [e_16]; exact g_sn f_15_3 (by omega)
  have f_16_4 : h_16[99]? = some (pm_I 20 (fun _ => 0)) := by rw [e_16]; exact g_sn f_15_4 (by omega)
  have f_16_5 : h_16[100]? = some (pm_I 20 (fun _ => 0)) := by rw [e_16]; exact g_sn f_15_5 (by omega)
  have f_16_6 : h_16[101]? = some (pm_Dd 320 (fun _ => 0)) := by rw [e_16]; exact g_sn f_15_6 (by omega)
  have f_16_7 : h_16[102]? = some (pm_I 14 (fun _ => 0)) := by rw [e_16]; exact g_sn f_15_7 (by omega)
  have f_16_8 : h_16[103]? = some (pm_I 14 (fun _ => 0)) := by rw [e_16]; exact g_sn f_15_n (by omega)
  have f_16_s : h_16[95]? = some (pm_Ob 4 [.ref 96, .ref 97, .ref 98, .ref 99, .ref 100, .ref 101, .ref 102, .ref 103, .null, .null, .null, .null, .null, .null, .int 0, .int 0, .int 0, .int 0, .int 0, .int 0, .int 0]) := by rw [e_16]; exact g_ss f_15_0
  have l_16 : h_16.length = 104 := by rw [e_16]; exact st_len l_15
  have r_16 : ∀ k, k < 96 → k ≠ 95 → h_16[k]? = h[k]? := fun k h1 h2 => Eq.trans (b := h_15[k]?) (by rw [e_16, List.getElem?_set_ne (by omega)]) (r_15 k h1 h2)
  refine px (fun _ => pm_aload_n (pc := 69) d_Mo_init_69 rfl) ?_
  refine px (fun _ => pm_bipush (v := 14) (pc := 70) d_Mo_init_70 rfl) ?_
  refine px (fun _ => pm_newa (kc := 5) (ks := 100) (kd := 0) (N := 14) (a0 := (14, .inl fun _ => 0)) (pc := 72) d_Mo_init_72 (pm_t1 (i := 58) rfl rfl) (fun _ => rfl) (fun _ => rfl) (fun _ => rfl) rfl (by decide) (by decide)) ?_
  rw [l_16]
  obtain ⟨h_17, e_17⟩ : ∃ h9, h9 = h_16 ++ [pm_I 14 (fun _ => 0)] := ⟨_, rfl⟩
  rw [← e_17]
  have f_17_0 : h_17[95]? = some (pm_Ob 4 [.ref 96, .ref 97, .ref 98, .ref 99, .ref 100, .ref 101, .ref 102, .ref 103, .null, .null, .null, .null, .null, .null, .int 0, .int 0, .int 0, .int 0, .int 0, .int 0, .int 0]) := by rw [e_17]; exact ap_old f_16_s
  have f_17_1 : h_17[96]? = some (pm_I 20 (fun _ => 0)) := by rw [e_17]; exact ap_old f_16_1
  have f_17_2 : h_17[97]? = some (pm_I 20 (fun _ => 0)) := by rw [e_17]; exact ap_old f_16_2
  have f_17_3 : h_17[98]? = some (pm_I 20 (fun _ => 0)) := by rw [e_17]; exact ap_old f_16_3
  have f_17_4 : h_17[99]? = some (pm_I 20 (fun _ => 0)) := by rw [e_17]; exact ap_old f_16_4
  have f_17_5 : h_17[100]? = some (pm_I 20 (fun _ => 0)) := by rw [e_17]; exact ap_old f_16_5
  have f_17_6 : h_17[101]? = some (pm_Dd 320 (fun _ => 0)) := by rw [e_17]; exact ap_old f_16_6
  have f_17_7 : h_17[102]? = some (pm_I 14 (fun _ => 0)) := by rw [e_17]; exact ap_old f_16_7
  have f_17_8 : h_17[103]? = some (pm_I 14 (fun _ => 0)) := by rw [e_17]; exact ap_old f_16_8
  have l_17 : h_17.length = 104 + 1 := by rw [e_17]; exact ap_len l_16
  have f_17_n : h_17[104]? = some (pm_I 14 (fun _ => 0)) := by rw [e_17]; exact ap_new l_16
  have r_17 : ∀ k, k < 96 → k ≠ 95 → h_17[k]? = h[k]? := fun k h1 h2 => Eq.trans (b := h_16[k]?) (by rw [e_17, ap_fr l_16 (by omega)]) (r_16 k h1 h2)
  refine px (fun _ => pm_putFC (c' := pm_Ob 4 [.ref 96, .ref 97, .ref 98, .ref 99, .ref 100, .ref 101, .ref 102, .ref 103, .ref 104, .null, .null, .null, .null, .null, .int 0, .int 0, .int 0, .int 0, .int 0, .int 0, .int 0]) ff_Mo_35 rfl (pc := 74) d_Mo_init_74 f_17_0 (Nat.le_of_ble_eq_true rfl) rfl rfl rfl) ?_
  obtain ⟨h_18, e_18⟩ : ∃ h9, h9 = h_17.set (95) (pm_Ob 4 [.ref 96, .ref 97, .ref 98, .ref 99, .ref 100, .ref 101, .ref 102, .ref 103, .ref 104, .null, .null, .null, .null, .null, .int 0, .int 0, .int 0, .int 0, .int 0, .int 0, .int 0]) := ⟨_, rfl⟩
  rw [← e_18]
  have f_18_1 : h_18[96]? = some (pm_I 20 (fun _ => 0)) := by rw [e_18]; exact g_sn f_17_1 (by omega)
  have f_18_2 : h_18[97]? = some (pm_I 20 (fun _ => 0)) := by rw [e_18]; exact g_sn f_17_2 (by omega)
  have f_18_3 : h_18[98]? = some (pm_I 20 (fun _ => 0)) := by rw [e_18]; exact g_sn f_17_3 (by omega)
  have f_18_4 : h_18[99]? = some (pm_I 20 (fun _ => 0)) := by rw [e_18]; exact g_sn f_17_4 (by omega)
  have f_18_5 : h_18[100]? = some (pm_I 20 (fun _ => 0)) := by rw [e_18]; exact g_sn f_17_5 (by omega)
  have f_18_6 : h_18[101]? = some (pm_Dd 320 (fun _ => 0)) := by rw [e_18]; exact g_sn f_17_6 (by omega)
  have f_18_7 : h_18[102]? = some (pm_I 14 (fun _ => 0)) := by rw [e_18]; exact g_sn f_17_7 (by omega)
  have f_18_8 : h_18[103]? = some (pm_I 14 (fun _ => 0)) := by rw [e_18]; exact g_sn f_17_8 (by omega)
  have f_18_9 : h_18[104]? = some (pm_I 14 (fun _ => 0)) := by rw [e_18]; exact g_sn f_17_n (by omega)
  have f_18_s : h_18[95]? = some (pm_Ob 4 [.ref 96, .ref 97, .ref 98, .ref 99, .ref 100, .ref 101, .ref 102, .ref 103, .ref 104, .null, .null, .null, .null, .null, .int 0, .int 0, .int 0, .int 0, .int 0, .int 0, .int 0]) := by rw [e_18]; exact g_ss f_17_0
  have l_18 : h_18.length = 105 := by rw [e_18]; exact st_len l_17
  have r_18 : ∀ k, k < 96 → k ≠ 95 → h_18[k]? = h[k]? := fun k h1 h2 => Eq.trans (b := h_17[k]?) (by rw [e_18, List.getElem?_set_ne (by omega)]) (r_17 k h1 h2)
  refine px (fun _ => pm_aload_n (pc := 77) d_Mo_init_77 rfl) ?_
  refine px (fun _ => pm_bipush (v := 14) (pc := 78) d_Mo_init_78 rfl) ?_
  refine px (fun _ => pm_newa (kc := 4) (ks := 86) (kd := 0) (N := 14) (a0 := (14, .inl fun _ => 0)) (pc := 80) d_Mo_init_80 (pm_t1 (i := 58) rfl rfl) (fun _ => rfl) (fun _ => rfl) (fun _ => rfl) rfl (by decide) (by decide)) ?_
  rw [l_18]
  obtain ⟨h_19, e_19⟩ : ∃ h9, h9 = h_18 ++ [pm_I 14 (fun _ => 0)] := ⟨_, rfl⟩
  rw [← e_19]
  have f_19_0 : h_19[95]? = some (pm_Ob 4 [.ref 96, .ref 97, .ref 98, .ref 99, .ref 100, .ref 101, .ref 102, .ref 103, .ref 104, .null, .null, .null, .null, .null, .int 0, .int 0, .int 0, .int 0, .int 0, .int 0, .int 0]) := by rw [e_19]; exact ap_old f_18_s
  have f_19_1 : h_19[96]? = some (pm_I 20 (fun _ => 0)) := by rw [e_19]; exact ap_old f_18_1
  have f_19_2 : h_19[97]? = some (pm_I 20 (fun _ => 0)) := by rw [e_19]; exact ap_old f_18_2
  have f_19_3 : h_19[98]? = some (pm_I 20 (fun _ => 0)) := by rw [e_19]; exact ap_old f_18_3
  have f_19_4 : h_19[99]? = some (pm_I 20 (fun _ => 0)) := by rw [e_19]; exact ap_old f_18_4
  have f_19_5 : h_19[100]? = some (pm_I 20 (fun _ => 0)) := by rw [e_19]; exact ap_old f_18_5
  have f_19_6 : h_19[101]? = some (pm_Dd 320 (fun _ => 0)) := by rw [e_19]; exact ap_old f_18_6
  have f_19_7 : h_19[102]? = some (pm_I 14 (fun _ => 0)) := by rw [e_19]; exact ap_old f_18_7
  have f_19_8 : h_19[103]? = some (pm_I 14 (fun _ => 0)) := by rw [e_19]; exact ap_old f_18_8
  have f_19_9 : h_19[104]? = some (pm_I 14 (fun _ => 0)) := by rw [e_19]; exact ap_old f_18_9
  have l_19 : h_19.length = 105 + 1 := by rw [e_19]; exact ap_len l_18
  have f_19_n : h_19[105]? = some (pm_I 14 (fun _ => 0)) := by rw [e_19]; exact ap_new l_18
  have r_19 : ∀ k, k < 96 → k ≠ 95 → h_19[k]? = h[k]? := fun k h1 h2 => Eq.trans (b := h_18[k]?) (by rw [e_19, ap_fr l_18 (by omega)]) (r_18 k h1 h2)
  refine px (fun _ => pm_putFC (c' := pm_Ob 4 [.ref 96, .ref 97, .ref 98, .ref 99, .ref 100, .ref 101, .ref 102, .ref 103, .ref 104, .ref 105, .null, .null, .null, .null, .int 0, .int 0, .int 0, .int 0, .int 0, .int 0, .int 0]) ff_Mo_38 rfl (pc := 82) d_Mo_init_82 f_19_0 (Nat.le_of_ble_eq_true rfl) rfl rfl rfl) ?_
  obtain ⟨h_20, e_20⟩ : ∃ h9, h9 = h_19.set (95) (pm_Ob 4 [.ref 96, .ref 97, .ref 98, .ref 99, .ref 100, .ref 101, .ref 102, .ref 103, .ref 104, .ref 105, .null, .null, .null, .null, .int 0, .int 0, .int 0, .int 0, .int 0, .int 0, .int 0]) := ⟨_, rfl⟩
  rw [← e_20]
  have f_20_1 : h_20[96]? = some (pm_I 20 (fun _ => 0)) := by rw [e_20]; exact g_sn f_19_1 (by omega)
  have f_20_2 : h_20[97]? = some (pm_I 20 (fun _ => 0)) := by rw [e_20]; exact g_sn f_19_2 (by omega)
  have f_20_3 : h_20[98]? = some (pm_I 20 (fun _ => 0)) := by rw [e_20]; exact g_sn f_19_3 (by omega)
  have f_20_4 : h_20[99]? = some (pm_I 20 (fun _ => 0)) := by rw [e_20]; exact g_sn f_19_4 (by omega)
  have f_20_5 : h_20[100]? = some (pm_I 20 (fun _ => 0)) := by rw [e_20]; exact g_sn f_19_5 (by omega)
  have f_20_6 : h_20[101]? = some (pm_Dd 320 (fun _ => 0)) := by rw [e_20]; exact g_sn f_19_6 (by omega)
  have f_20_7 : h_20[102]? = some (pm_I 14 (fun _ => 0)) := by rw [e_20]; exact g_sn f_19_7 (by omega)
  have f_20_8 : h_20[103]? = some (pm_I 14 (fun _ => 0)) := by rw [e_20]; exact g_sn f_19_8 (by omega)
  have f_20_9 : h_20[104]? = some (pm_I 14 (fun _ => 0)) := by rw [e_20]; exact g_sn f_19_9 (by omega)
  have f_20_10 : h_20[105]? = some (pm_I 14 (fun _ => 0)) := by rw [e_20]; exact g_sn f_19_n (by omega)
  have f_20_s : h_20[95]? = some (pm_Ob 4 [.ref 96, .ref 97, .ref 98, .ref 99, .ref 100, .ref 101, .ref 102, .ref 103, .ref 104, .ref 105, .null, .null, .null, .null, .int 0, .int 0, .int 0, .int 0, .int 0, .int 0, .int 0]) := by rw [e_20]; exact g_ss f_19_0
  have l_20 : h_20.length = 106 := by rw [e_20]; exact st_len l_19
  have r_20 : ∀ k, k < 96 → k ≠ 95 → h_20[k]? = h[k]? := fun k h1 h2 => Eq.trans (b := h_19[k]?) (by rw [e_20, List.getElem?_set_ne (by omega)]) (r_19 k h1 h2)
  refine px (fun _ => pm_aload_n (pc := 85) d_Mo_init_85 rfl) ?_
  refine px (fun _ => pm_bipush (v := 14) (pc := 86) d_Mo_init_86 rfl) ?_
  refine px (fun _ => pm_newa (kc := 3) (ks := 72) (kd := 0) (N := 14) (a0 := (14, .inl fun _ => 0)) (pc := 88) d_Mo_init_88 (pm_t1 (i := 58) rfl rfl) (fun _ => rfl) (fun _ => rfl) (fun _ => rfl) rfl (by decide) (by decide)) ?_
  rw [l_20]
  obtain ⟨h_21, e_21⟩ : ∃ h9, h9 = h_20 ++ [pm_I 14 (fun _ => 0)] := ⟨_, rfl⟩
  rw [← e_21]
  have f_21_0 : h_21[95]? = some (pm_Ob 4 [.ref 96, .ref 97, .ref 98, .ref 99, .ref 100, .ref 101, .ref 102, .ref 103, .ref 104, .ref 105, .null, .null, .null, .null, .int 0, .int 0, .int 0, .int 0, .int 0, .int 0, .int 0]) := by rw [e_21]; exact ap_old f_20_s
  have f_21_1 : h_21[96]? = some (pm_I 20 (fun _ => 0)) := by rw [e_21]; exact ap_old f_20_1
  have f_21_2 : h_21[97]? = some (pm_I 20 (fun _ => 0)) := by rw [e_21]; exact ap_old f_20_2
  have f_21_3 : h_21[98]? = some (pm_I 20 (fun _ => 0)) := by rw [e_21]; exact ap_old f_20_3
  have f_21_4 : h_21[99]? = some (pm_I 20 (fun _ => 0)) := by rw [e_21]; exact ap_old f_20_4
  have f_21_5 : h_21[100]? = some (pm_I 20 (fun _ => 0)) := by rw [e_21]; exact ap_old f_20_5
  have f_21_6 : h_21[101]? = some (pm_Dd 320 (fun _ => 0)) := by rw [e_21]; exact ap_old f_20_6
  have f_21_7 : h_21[102]? = some (pm_I 14 (fun _ => 0)) := by rw [e_21]; exact ap_old f_20_7
  have f_21_8 : h_21[103]? = some (pm_I 14 (fun _ => 0)) := by rw [e_21]; exact ap_old f_20_8
  have f_21_9 : h_21[104]? = some (pm_I 14 (fun _ => 0)) := by rw [e_21]; exact ap_old f_20_9
  have f_21_10 : h_21[105]? = some (pm_I 14 (fun _ => 0)) := by rw [e_21]; exact ap_old f_20_10
  have l_21 : h_21.length = 106 + 1 := by rw [e_21]; exact ap_len l_20
  have f_21_n : h_21[106]? = some (pm_I 14 (fun _ => 0)) := by rw [e_21]; exact ap_new l_20
  have r_21 : ∀ k, k < 96 → k ≠ 95 → h_21[k]? = h[k]? := fun k h1 h2 => Eq.trans (b := h_20[k]?) (by rw [e_21, ap_fr l_20 (by omega)]) (r_20 k h1 h2)
  refine px (fun _ => pm_putFC (c' := pm_Ob 4 [.ref 96, .ref 97, .ref 98, .ref 99, .ref 100, .ref 101, .ref 102, .ref 103, .ref 104, .ref 105, .ref 106, .null, .null, .null, .int 0, .int 0, .int 0, .int 0, .int 0, .int 0, .int 0]) ff_Mo_41 rfl (pc := 90) d_Mo_init_90 f_21_0 (Nat.le_of_ble_eq_true rfl) rfl rfl rfl) ?_
  obtain ⟨h_22, e_22⟩ : ∃ h9, h9 = h_21.set (95) (pm_Ob 4 [.ref 96, .ref 97, .ref 98, .ref 99, .ref 100, .ref 101, .ref 102, .ref 103, .ref 104, .ref 105, .ref 106, .null, .null, .null, .int 0, .int 0, .int 0, .int 0, .int 0, .int 0, .int 0]) := ⟨_, rfl⟩
  rw [← e_22]
  have f_22_1 : h_22[96]? = some (pm_I 20 (fun _ => 0)) := by rw [e_22]; exact g_sn f_21_1 (by omega)
  have f_22_2 : h_22[97]? = some (pm_I 20 (fun _ => 0)) := by rw [e_22]; exact g_sn f_21_2 (by omega)
  have f_22_3 : h_22[98]? = some (pm_I 20 (fun _ => 0)) := by rw [e_22]; exact g_sn f_21_3 (by omega)
  have f_22_4 : h_22[99]? = some (pm_I 20 (fun _ => 0)) := by rw [e_22]; exact g_sn f_21_4 (by omega)
  have f_22_5 : h_22[100]? = some (pm_I 20 (fun _ => 0)) := by rw [e_22]; exact g_sn f_21_5 (by omega)
  have f_22_6 : h_22[101]? = some (pm_Dd 320 (fun _ => 0)) := by rw [e_22]; exact g_sn f_21_6 (by omega)
  have f_22_7 : h_22[102]? = some (pm_I 14 (fun _ => 0)) := by rw [e_22]; exact g_sn f_21_7 (by omega)
  have f_22_8 : h_22[103]? = some (pm_I 14 (fun _ => 0)) := by rw [e_22]; exact g_sn f_21_8 (by omega)
  have f_22_9 : h_22[104]? = some (pm_I 14 (fun _ => 0)) := by rw [e_22]; exact g_sn f_21_9 (by omega)
  have f_22_10 : h_22[105]? = some (pm_I 14 (fun _ => 0)) := by rw [e_22]; exact g_sn f_21_10 (by omega)
  have f_22_11 : h_22[106]? = some (pm_I 14 (fun _ => 0)) := by rw [e_22]; exact g_sn f_21_n (by omega)
  have f_22_s : h_22[95]? = some (pm_Ob 4 [.ref 96, .ref 97, .ref 98, .ref 99, .ref 100, .ref 101, .ref 102, .ref 103, .ref 104, .ref 105, .ref 106, .null, .null, .null, .int 0, .int 0, .int 0, .int 0, .int 0, .int 0, .int 0]) := by rw [e_22]; exact g_ss f_21_0
  have l_22 : h_22.length = 107 := by rw [e_22]; exact st_len l_21
  have r_22 : ∀ k, k < 96 → k ≠ 95 → h_22[k]? = h[k]? := fun k h1 h2 => Eq.trans (b := h_21[k]?) (by rw [e_22, List.getElem?_set_ne (by omega)]) (r_21 k h1 h2)
  refine px (fun _ => pm_aload_n (pc := 93) d_Mo_init_93 rfl) ?_
  refine px (fun _ => pm_bipush (v := 14) (pc := 94) d_Mo_init_94 rfl) ?_
  refine px (fun _ => pm_newa (kc := 2) (ks := 58) (kd := 0) (N := 14) (a0 := (14, .inl fun _ => 0)) (pc := 96) d_Mo_init_96 (pm_t1 (i := 58) rfl rfl) (fun _ => rfl) (fun _ => rfl) (fun _ => rfl) rfl (by decide) (by decide)) ?_
  rw [l_22]
  obtain ⟨h_23, e_23⟩ : ∃ h9, h9 = h_22 ++ [pm_I 14 (fun _ => 0)] := ⟨_, rfl⟩
  rw [← e_23]
  have f_23_0 : h_23[95]? = some (pm_Ob 4 [.ref 96, .ref 97, .ref 98, .ref 99, .ref 100, .ref 101, .ref 102, .ref 103, .ref 104, .ref 105, .ref 106, .null, .null, .null, .int 0, .int 0, .int 0, .int 0, .int 0, .int 0, .int 0]) := by rw [e_23]; exact ap_old f_22_s
  have f_23_1 : h_23[96]? = some (pm_I 20 (fun _ => 0)) := by rw [e_23]; exact ap_old f_22_1
  have f_23_2 : h_23[97]? = some (pm_I 20 (fun _ => 0)) := by rw [e_23]; exact ap_old f_22_2
  have f_23_3 : h_23[98]? = some (pm_I 20 (fun _ => 0)) := by rw [e_23]; exact ap_old f_22_3
  have f_23_4 : h_23[99]? = some (pm_I 20 (fun _ => 0)) := by rw [e_23]; exact ap_old f_22_4
  have f_23_5 : h_23[100]? = some (pm_I 20 (fun _ => 0)) := by rw [e_23]; exact ap_old f_22_5
  have f_23_6 : h_23[101]? = some (pm_Dd 320 (fun _ => 0)) := by rw [e_23]; exact ap_old f_22_6
  have f_23_7 : h_23[102]? = some (pm_I 14 (fun _ => 0)) := by rw [e_23]; exact ap_old f_22_7
  have f_23_8 : h_23[103]? = some (pm_I 14 (fun _ => 0)) := by rw [e_23]; exact ap_old f_22_8
  have f_23_9 : h_23[104]? = some (pm_I 14 (fun _ => 0)) := by rw [e_23]; exact ap_old f_22_9
  have f_23_10 : h_23[105]? = some (pm_I 14 (fun _ => 0)) := by rw [e_23]; exact ap_old f_22_10
  have f_23_11 : h_23[106]? = some (pm_I 14 (fun _ => 0)) := by rw [e_23]; exact ap_old f_22_11
  have l_23 : h_23.length = 107 + 1 := by rw [e_23]; exact ap_len l_22
  have f_23_n : h_23[107]? = some (pm_I 14 (fun _ => 0)) := by rw [e_23]; exact ap_new l_22
  have r_23 : ∀ k, k < 96 → k ≠ 95 → h_23[k]? = h[k]? := fun k h1 h2 => Eq.trans (b := h_22[k]?) (by rw [e_23, ap_fr l_22 (by omega)]) (r_22 k h1 h2)
  refine px (fun _ => pm_putFC (c' := pm_Ob 4 [.ref 96, .ref 97, .ref 98, .ref 99, .ref 100, .ref 101, .ref 102, .ref 103, .ref 104, .ref 105, .ref 106, .ref 107, .null, .null, .int 0, .int 0, .int 0, .int 0, .int 0, .int 0, .int 0]) ff_Mo_44 rfl (pc := 98) d_Mo_init_98 f_23_0 (Nat.le_of_ble_eq_true rfl) rfl rfl rfl) ?_
  obtain ⟨h_24, e_24⟩ : ∃ h9, h9 = h_23.set (95) (pm_Ob 4 [.ref 96, .ref 97, .ref 98, .ref 99, .ref 100, .ref 101, .ref 102, .ref 103, .ref 104, .ref 105, .ref 106, .ref 107, .null, .null, .int 0, .int 0, .int 0, .int 0, .int 0, .int 0, .int 0]) := ⟨_, rfl⟩
  rw [← e_24]
  have f_24_1 : h_24[96]? = some (pm_I 20 (fun _ => 0)) := by rw [e_24]; exact g_sn f_23_1 (by omega)
  have f_24_2 : h_24[97]? = some (pm_I 20 (fun _ => 0)) := by rw [e_24]; exact g_sn f_23_2 (by omega)
  have f_24_3 : h_24[98]? = some (pm_I 20 (fun _ => 0)) := by rw [e_24]; exact g_sn f_23_3 (by omega)
  have f_24_4 : h_24[99]? = some (pm_I 20 (fun _ => 0)) := by rw [e_24]; exact g_sn f_23_4 (by omega)
  have f_24_5 : h_24[100]? = some (pm_I 20 (fun _ => 0)) := by rw [e_24]; exact g_sn f_23_5 (by omega)
  have f_24_6 : h_24[101]? = some (pm_Dd 320 (fun _ => 0)) := by rw [e_24]; exact g_sn f_23_6 (by omega)
  have f_24_7 : h_24[102]? = some (pm_I 14 (fun _ => 0)) := by rw [e_24]; exact g_sn f_23_7 (by omega)
  have f_24_8 : h_24[103]? = some (pm_I 14 (fun _ => 0)) := by rw [e_24]; exact g_sn f_23_8 (by omega)
  have f_24_9 : h_24[104]? = some (pm_I 14 (fun _ => 0)) := by rw [e_24]; exact g_sn f_23_9 (by omega)
  have f_24_10 : h_24[105]? = some (pm_I 14 (fun _ => 0)) := by rw [e_24]; exact g_sn f_23_10 (by omega)
  have f_24_11 : h_24[106]? = some (pm_I 14 (fun _ => 0)) := by rw [e_24]; exact g_sn f_23_11 (by omega)
  have f_24_12 : h_24[107]? = some (pm_I 14 (fun _ => 0)) := by rw [e_24]; exact g_sn f_23_n (by omega)
  have f_24_s : h_24[95]? = some (pm_Ob 4 [.ref 96, .ref 97, .ref 98, .ref 99, .ref 100, .ref 101, .ref 102, .ref 103, .ref 104, .ref 105, .ref 106, .ref 107, .null, .null, .int 0, .int 0, .int 0, .int 0, .int 0, .int 0, .int 0]) := by rw [e_24]; exact g_ss f_23_0
  have l_24 : h_24.length = 108 := by rw [e_24]; exact st_len l_23
  have r_24 : ∀ k, k < 96 → k ≠ 95 → h_24[k]? = h[k]? := fun k h1 h2 => Eq.trans (b := h_23[k]?) (by rw [e_24, List.getElem?_set_ne (by omega)]) (r_23 k h1 h2)
  refine px (fun _ => pm_aload_n (pc := 101) d_Mo_init_101 rfl) ?_
  refine px (fun _ => pm_bipush (v := 42) (pc := 102) d_Mo_init_102 rfl) ?_
  refine px (fun _ => pm_newa (kc := 1) (ks := 16) (kd := 0) (N := 42) (a0 := (42, .inl fun _ => 0)) (pc := 104) d_Mo_init_104 (pm_t1 (i := 58) rfl rfl) (fun _ => rfl) (fun _ => rfl) (fun _ => rfl) rfl (by decide) (by decide)) ?_
  rw [l_24]
  obtain ⟨h_25, e_25⟩ : ∃ h9, h9 = h_24 ++ [pm_I 42 (fun _ => 0)] := ⟨_, rfl⟩
  rw [← e_25]
  have f_25_0 : h_25[95]? = some (pm_Ob 4 [.ref 96, .ref 97, .ref 98, .ref 99, .ref 100, .ref 101, .ref 102, .ref 103, .ref 104, .ref 105, .ref 106, .ref 107, .null, .null, .int 0, .int 0, .int 0, .int 0, .int 0, .int 0, .int 0]) := by rw [e_25]; exact ap_old f_24_s
  have f_25_1 : h_25[96]? = some (pm_I 20 (fun _ => 0)) := by rw [e_25]; exact ap_old f_24_1
  have f_25_2 : h_25[97]? = some (pm_I 20 (fun _ => 0)) := by rw [e_25]; exact ap_old f_24_2
  have f_25_3 : h_25[98]? = some (pm_I 20 (fun _ => 0)) := by rw [e_25]; exact ap_old f_24_3
  have f_25_4 : h_25[99]? = some (pm_I 20 (fun _ => 0)) := by rw [e_25]; exact ap_old f_24_4
  have f_25_5 : h_25[100]? = some (pm_I 20 (fun _ => 0)) := by rw [e_25]; exact ap_old f_24_5
  have f_25_6 : h_25[101]? = some (pm_Dd 320 (fun _ => 0)) := by rw [e_25]; exact ap_old f_24_6
  have f_25_7 : h_25[102]? = some (pm_I 14 (fun _ => 0)) := by rw [e_25]; exact ap_old f_24_7
  have f_25_8 : h_25[103]? = some (pm_I 14 (fun _ => 0)) := by rw [e_25]; exact ap_old f_24_8
  have f_25_9 : h_25[104]? = some (pm_I 14 (fun _ => 0)) := by rw [e_25]; exact ap_old f_24_9
  have f_25_10 : h_25[105]? = some (pm_I 14 (fun _ => 0)) := by rw [e_25]; exact ap_old f_24_10
  have f_25_11 : h_25[106]? = some (pm_I 14 (fun _ => 0)) := by rw [e_25]; exact ap_old f_24_11
  have f_25_12 : h_25[107]? = some (pm_I 14 (fun _ => 0)) := by rw [e_25]; exact ap_old f_24_12
  have l_25 : h_25.length = 108 + 1 := by rw [e_25]; exact ap_len l_24
  have f_25_n : h_25[108]? = some (pm_I 42 (fun _ => 0)) := by rw [e_25]; exact ap_new l_24
  have r_25 : ∀ k, k < 96 → k ≠ 95 → h_25[k]? = h[k]? := fun k h1 h2 => Eq.trans (b := h_24[k]?) (by rw [e_25, ap_fr l_24 (by omega)]) (r_24 k h1 h2)
  refine px (fun _ => pm_putFC (c' := pm_Ob 4 [.ref 96, .ref 97, .ref 98, .ref 99, .ref 100, .ref 101, .ref 102, .ref 103, .ref 104, .ref 105, .ref 106, .ref 107, .ref 108, .null, .int 0, .int 0, .int 0, .int 0, .int 0, .int 0, .int 0]) ff_Mo_47 rfl (pc := 106) d_Mo_init_106 f_25_0 (Nat.le_of_ble_eq_true rfl) rfl rfl rfl) ?_
  obtain ⟨h_26, e_26⟩ : ∃ h9, h9 = h_25.set (95) (pm_Ob 4 [.ref 96, .ref 97, .ref 98, .ref 99, .ref 100, .ref 101, .ref 102, .ref 103, .ref 104, .ref 105, .ref 106, .ref 107, .ref 108, .null, .int 0, .int 0, .int 0, .int 0, .int 0, .int 0, .int 0]) := ⟨_, rfl⟩
  rw [← e_26]
  have f_26_1 : h_26[96]? = some (pm_I 20 (fun _ => 0)) := by rw [e_26]; exact g_sn f_25_1 (by omega)
  have f_26_2 : h_26[97]? = some (pm_I 20 (fun _ => 0)) := by rw [e_26]; exact g_sn f_25_2 (by omega)
  have f_26_3 : h_26[98]? = some (pm_I 20 (fun _ => 0)) := by rw [e_26]; exact g_sn f_25_3 (by omega)
  have f_26_4 : h_26[99]? = some (pm_I 20 (fun _ => 0)) := by rw [e_26]; exact g_sn f_25_4 (by omega)
  have f_26_5 : h_26[100]? = some (pm_I 20 (fun _ => 0)) := by rw [e_26]; exact g_sn f_25_5 (by omega)
  have f_26_6 : h_26[101]? = some (pm_Dd 320 (fun _ => 0)) := by rw [e_26]; exact g_sn f_25_6 (by omega)
  have f_26_7 : h_26[102]? = some (pm_I 14 (fun _ => 0)) := by rw [e_26]; exact g_sn f_25_7 (by omega)
  have f_26_8 : h_26[103]? = some (pm_I 14 (fun _ => 0)) := by rw [e_26]; exact g_sn f_25_8 (by omega)
  have f_26_9 : h_26[104]? = some (pm_I 14 (fun _ => 0)) := by rw [e_26]; exact g_sn f_25_9 (by omega)
  have f_26_10 : h_26[105]? = some (pm_I 14 (fun _ => 0)) := by rw [e_26]; exact g_sn f_25_10 (by omega)
  have f_26_11 : h_26[106]? = some (pm_I 14 (fun _ => 0)) := by rw [e_26]; exact g_sn f_25_11 (by omega)
  have f_26_12 : h_26[107]? = some (pm_I 14 (fun _ => 0)) := by rw [e_26]; exact g_sn f_25_12 (by omega)
  have f_26_13 : h_26[108]? = some (pm_I 42 (fun _ => 0)) := by rw [e_26]; exact g_sn f_25_n (by omega)
  have f_26_s : h_26[95]? = some (pm_Ob 4 [.ref 96, .ref 97, .ref 98, .ref 99, .ref 100, .ref 101, .ref 102, .ref 103, .ref 104, .ref 105, .ref 106, .ref 107, .ref 108, .null, .int 0, .int 0, .int 0, .int 0, .int 0, .int 0, .int 0]) := by rw [e_26]; exact g_ss f_25_0
  have l_26 : h_26.length = 109 := by rw [e_26]; exact st_len l_25
  have r_26 : ∀ k, k < 96 → k ≠ 95 → h_26[k]? = h[k]? := fun k h1 h2 => Eq.trans (b := h_25[k]?) (by rw [e_26, List.getElem?_set_ne (by omega)]) (r_25 k h1 h2)
  refine px (fun _ => pm_aload_n (pc := 109) d_Mo_init_109 rfl) ?_
  refine px (fun _ => pm_bipush (v := 16) (pc := 110) d_Mo_init_110 rfl) ?_
  refine px (fun _ => pm_newa (kc := 0) (ks := 0) (kd := 1) (N := 16) (a0 := (16, .inr (.inr (.inr (.inl fun _ => 0))))) (pc := 112) d_Mo_init_112 (pm_t1 (i := 59) rfl rfl) (fun _ => rfl) (fun _ => rfl) (fun _ => rfl) rfl (by decide) (by decide)) ?_
  rw [l_26]
  obtain ⟨h_27, e_27⟩ : ∃ h9, h9 = h_26 ++ [pm_Dd 16 (fun _ => 0)] := ⟨_, rfl⟩
  rw [← e_27]
  have f_27_0 : h_27[95]? = some (pm_Ob 4 [.ref 96, .ref 97, .ref 98, .ref 99, .ref 100, .ref 101, .ref 102, .ref 103, .ref 104, .ref 105, .ref 106, .ref 107, .ref 108, .null, .int 0, .int 0, .int 0, .int 0, .int 0, .int 0, .int 0]) := by rw [e_27]; exact ap_old f_26_s
  have f_27_1 : h_27[96]? = some (pm_I 20 (fun _ => 0)) := by rw [e_27]; exact ap_old f_26_1
  have f_27_2 : h_27[97]? = some (pm_I 20 (fun _ => 0)) := by rw [e_27]; exact ap_old f_26_2
  have f_27_3 : h_27[98]? = some (pm_I 20 (fun _ => 0)) := by rw [e_27]; exact ap_old f_26_3
  have f_27_4 : h_27[99]? = some (pm_I 20 (fun _ => 0)) := by rw [e_27]; exact ap_old f_26_4
  have f_27_5 : h_27[100]? = some (pm_I 20 (fun _ => 0)) := by rw [e_27]; exact ap_old f_26_5
  have f_27_6 : h_27[101]? = some (pm_Dd 320 (fun _ => 0)) := by rw [e_27]; exact ap_old f_26_6
  have f_27_7 : h_27[102]? = some (pm_I 14 (fun _ => 0)) := by rw [e_27]; exact ap_old f_26_7
  have f_27_8 : h_27[103]? = some (pm_I 14 (fun _ => 0)) := by rw [e_27]; exact ap_old f_26_8
  have f_27_9 : h_27[104]? = some (pm_I 14 (fun _ => 0)) := by rw [e_27]; exact ap_old f_26_9
  have f_27_10 : h_27[105]? = some (pm_I 14 (fun _ => 0)) := by rw [e_27]; exact ap_old f_26_10
  have f_27_11 : h_27[106]? = some (pm_I 14 (fun _ => 0)) := by rw [e_27]; exact ap_old f_26_11
  have f_27_12 : h_27[107]? = some (pm_I 14 (fun _ => 0)) := by rw [e_27]; exact ap_old f_26_12
  have f_27_13 : h_27[108]? = some (pm_I 42 (fun _ => 0)) := by rw [e_27]; exact ap_old f_26_13
  have l_27 : h_27.length = 109 + 1 := by rw [e_27]; exact ap_len l_26
  have f_27_n : h_27[109]? = some (pm_Dd 16 (fun _ => 0)) := by rw [e_27]; exact ap_new l_26
  have r_27 : ∀ k, k < 96 → k ≠ 95 → h_27[k]? = h[k]? := fun k h1 h2 => Eq.trans (b := h_26[k]?) (by rw [e_27, ap_fr l_26 (by omega)]) (r_26 k h1 h2)
  refine px (fun _ => pm_putFC (c' := pm_Ob 4 [.ref 96, .ref 97, .ref 98, .ref 99, .ref 100, .ref 101, .ref 102, .ref 103, .ref 104, .ref 105, .ref 106, .ref 107, .ref 108, .ref 109, .int 0, .int 0, .int 0, .int 0, .int 0, .int 0, .int 0]) ff_Mo_50 rfl (pc := 114) d_Mo_init_114 f_27_0 (Nat.le_of_ble_eq_true rfl) rfl rfl rfl) ?_
  obtain ⟨h_28, e_28⟩ : ∃ h9, h9 = h_27.set (95) (pm_Ob 4 [.ref 96, .ref 97, .ref 98, .ref 99, .ref 100, .ref 101, .ref 102, .ref 103, .ref 104, .ref 105, .ref 106, .ref 107, .ref 108, .ref 109, .int 0, .int 0, .int 0, .int 0, .int 0, .int 0, .int 0]) := ⟨_, rfl⟩
  rw [← e_28]
  have f_28_1 : h_28[96]? = some (pm_I 20 (fun _ => 0)) := by rw [e_28]; exact g_sn f_27_1 (by omega)
  have f_28_2 : h_28[97]? = some (pm_I 20 (fun _ => 0)) := by rw [e_28]; exact g_sn f_27_2 (by omega)
  have f_28_3 : h_28[98]? = some (pm_I 20 (fun _ => 0)) := by rw [e_28]; exact g_sn f_27_3 (by omega)
  have f_28_4 : h_28[99]? = some (pm_I 20 (fun _ => 0)) := by rw [e_28]; exact g_sn f_27_4 (by omega)
  have f_28_5 : h_28[100]? = some (pm_I 20 (fun _ => 0)) := by rw [e_28]; exact g_sn f_27_5 (by omega)
  have f_28_6 : h_28[101]? = some (pm_Dd 320 (fun _ => 0)) := by rw [e_28]; exact g_sn f_27_6 (by omega)
  have f_28_7 : h_28[102]? = some (pm_I 14 (fun _ => 0)) := by rw [e_28]; exact g_sn f_27_7 (by omega)
  have f_28_8 : h_28[103]? = some (pm_I 14 (fun _ => 0)) := by rw [e_28]; exact g_sn f_27_8 (by omega)
  have f_28_9 : h_28[104]? = some (pm_I 14 (fun _ => 0)) := by rw [e_28]; exact g_sn f_27_9 (by omega)
  have f_28_10 : h_28[105]? = some (pm_I 14 (fun _ => 0)) := by rw [e_28]; exact g_sn f_27_10 (by omega)
  have f_28_11 : h_28[106]? = some (pm_I 14 (fun _ => 0)) := by rw [e_28]; exact g_sn f_27_11 (by omega)
  have f_28_12 : h_28[107]? = some (pm_I 14 (fun _ => 0)) := by rw [e_28]; exact g_sn f_27_12 (by omega)
  have f_28_13 : h_28[108]? = some (pm_I 42 (fun _ => 0)) := by rw [e_28]; exact g_sn f_27_13 (by omega)
  have f_28_14 : h_28[109]? = some (pm_Dd 16 (fun _ => 0)) := by rw [e_28]; exact g_sn f_27_n (by omega)
  have f_28_s : h_28[95]? = some (pm_Ob 4 [.ref 96, .ref 97, .ref 98, .ref 99, .ref 100, .ref 101, .ref 102, .ref 103, .ref 104, .ref 105, .ref 106, .ref 107, .ref 108, .ref 109, .int 0, .int 0, .int 0, .int 0, .int 0, .int 0, .int 0]) := by rw [e_28]; exact g_ss f_27_0
  have l_28 : h_28.length = 110 := by rw [e_28]; exact st_len l_27
  have r_28 : ∀ k, k < 96 → k ≠ 95 → h_28[k]? = h[k]? := fun k h1 h2 => Eq.trans (b := h_27[k]?) (by rw [e_28, List.getElem?_set_ne (by omega)]) (r_27 k h1 h2)
  refine px (fun _ => pm_aload_n (pc := 117) d_Mo_init_117 rfl) ?_
  refine px (fun _ => pm_iconst (v := 1) (pc := 118) d_Mo_init_118 rfl) ?_
  refine px (fun _ => pm_putfC (c' := pm_Ob 4 [.ref 96, .ref 97, .ref 98, .ref 99, .ref 100, .ref 101, .ref 102, .ref 103, .ref 104, .ref 105, .ref 106, .ref 107, .ref 108, .ref 109, .int 0, .int 0, .int 0, .int 0, .int 0, .int 0, .int 1]) fp_Mo_53 (pc := 119) d_Mo_init_119 f_28_s (Nat.le_of_ble_eq_true rfl) rfl rfl rfl) ?_
  obtain ⟨h_29, e_29⟩ : ∃ h9, h9 = h_28.set (95) (pm_Ob 4 [.ref 96, .ref 97, .ref 98, .ref 99, .ref 100, .ref 101, .ref 102, .ref 103, .ref 104, .ref 105, .ref 106, .ref 107, .ref 108, .ref 109, .int 0, .int 0, .int 0, .int 0, .int 0, .int 0, .int 1]) := ⟨_, rfl⟩
  rw [← e_29]
  have f_29_1 : h_29[96]? = some (pm_I 20 (fun _ => 0)) := by rw [e_29]; exact g_sn f_28_1 (by omega)
  have f_29_2 : h_29[97]? = some (pm_I 20 (fun _ => 0)) := by rw [e_29]; exact g_sn f_28_2 (by omega)
  have f_29_3 : h_29[98]? = some (pm_I 20 (fun _ => 0)) := by rw [e_29]; exact g_sn f_28_3 (by omega)
  have f_29_4 : h_29[99]? = some (pm_I 20 (fun _ => 0)) := by rw [e_29]; exact g_sn f_28_4 (by omega)
  have f_29_5 : h_29[100]? = some (pm_I 20 (fun _ => 0)) := by rw [e_29]; exact g_sn f_28_5 (by omega)
  have f_29_6 : h_29[101]? = some (pm_Dd 320 (fun _ => 0)) := by rw [e_29]; exact g_sn f_28_6 (by omega)
  have f_29_7 : h_29[102]? = some (pm_I 14 (fun _ => 0)) := by rw [e_29]; exact g_sn f_28_7 (by omega)
  have f_29_8 : h_29[103]? = some (pm_I 14 (fun _ => 0)) := by rw [e_29]; exact g_sn f_28_8 (by omega)
  have f_29_9 : h_29[104]? = some (pm_I 14 (fun _ => 0)) := by rw [e_29]; exact g_sn f_28_9 (by omega)
  have f_29_10 : h_29[105]? = some (pm_I 14 (fun _ => 0)) := by rw [e_29]; exact g_sn f_28_10 (by omega)
  have f_29_11 : h_29[106]? = some (pm_I 14 (fun _ => 0)) := by rw [e_29]; exact g_sn f_28_11 (by omega)
  have f_29_12 : h_29[107]? = some (pm_I 14 (fun _ => 0)) := by rw [e_29]; exact g_sn f_28_12 (by omega)
  have f_29_13 : h_29[108]? = some (pm_I 42 (fun _ => 0)) := by rw [e_29]; exact g_sn f_28_13 (by omega)
  have f_29_14 : h_29[109]? = some (pm_Dd 16 (fun _ => 0)) := by rw [e_29]; exact g_sn f_28_14 (by omega)
  have f_29_s : h_29[95]? = some (pm_Ob 4 [.ref 96, .ref 97, .ref 98, .ref 99, .ref 100, .ref 101, .ref 102, .ref 103, .ref 104, .ref 105, .ref 106, .ref 107, .ref 108, .ref 109, .int 0, .int 0, .int 0, .int 0, .int 0, .int 0, .int 1]) := by rw [e_29]; exact g_ss f_28_s
  have l_29 : h_29.length = 110 := by rw [e_29]; exact st_len l_28
  have r_29 : ∀ k, k < 96 → k ≠ 95 → h_29[k]? = h[k]? := fun k h1 h2 => Eq.trans (b := h_28[k]?) (by rw [e_29, List.getElem?_set_ne (by omega)]) (r_28 k h1 h2)
  exact pxr (pm_vret (pc := 122) d_Mo_init_122 rfl) ⟨rfl, l_29, ⟨f_29_s, f_29_1, f_29_2, f_29_3, f_29_4, f_29_5, f_29_6, f_29_7, f_29_8, f_29_9, f_29_10, f_29_11, f_29_12, f_29_13, f_29_14⟩, fun k h1 h2 => r_29 k h1 h2⟩
def gS0 : gS := ((fun k => if k = 1 then 1 else 0), (fun _ => 0), (fun _ => 0), (fun _ _ => 0), (fun _ k => if k = 0 then 0 else 1), (fun _ _ => 0), (fun _ _ => 0), (fun _ _ => 0), (fun _ _ => 0))
/-- the class while its slots are made -/
def gZ (i : Nat) (h : pm_H) : Prop := h.length = 7 + 3 * i ∧ h[0]? = some (gE0 gS0) ∧ (∃ f, h[1]? = some (pm_Rf 3 20 f) ∧ ∀ s, s < i → f s = some (7 + 3 * s)) ∧ h[2]? = some (pm_Rf 4 14 (fun _ => none)) ∧ h[3]? = some (pm_I 14 (fun _ => 0)) ∧ h[4]? = some (pm_I 14 (fun _ => 0)) ∧ h[5]? = some (pm_Ob 2 [.ref 6, .int 0, .int 1, .int 1]) ∧ (∀ s, s < i → h[7 + 3 * s]? = some (gEs gS0 s) ∧ h[8 + 3 * s]? = some (gEt gS0 s) ∧ h[9 + 3 * s]? = some (pm_Dd 16 (fun _ => 0)))
/-- the class while its nodes are made -/
def gYn (i : Nat) (h : pm_H) : Prop := h.length = 67 + 2 * i ∧ h[0]? = some (gE0 gS0) ∧ (∃ f, h[1]? = some (pm_Rf 3 20 f) ∧ ∀ s, s < 20 → f s = some (7 + 3 * s)) ∧ (∃ f, h[2]? = some (pm_Rf 4 14 f) ∧ ∀ n, n < i → f n = some (67 + 2 * n)) ∧ h[3]? = some (pm_I 14 (fun _ => 0)) ∧ h[4]? = some (pm_I 14 (fun _ => 0)) ∧ h[5]? = some (pm_Ob 2 [.ref 6, .int 0, .int 1, .int 1]) ∧ (∀ s, s < 20 → h[7 + 3 * s]? = some (gEs gS0 s) ∧ h[8 + 3 * s]? = some (gEt gS0 s) ∧ h[9 + 3 * s]? = some (pm_Dd 16 (fun _ => 0))) ∧ (∀ n, n < i → h[67 + 2 * n]? = some (gEn gS0 n) ∧ h[68 + 2 * n]? = some (pm_I 3 (fun _ => 0)))
set_option maxHeartbeats 1000000 in
set_option maxRecDepth 20000 in
theorem lp_in {l : Launch} {G : pm_G} (hl : l.stackTraces = false) : ∀ (d i : Nat) (h : pm_H), gYn i h → i + d = 14 → pm_Px l G true true (2 * d) (12 * d) M_Gr_init 98 [(1, .int (nI i)), (0, .ref (0))] [] h (fun r => r.1 = .inl none ∧ r.2.length = 95 ∧ gH gS0 r.2) := by
  intro d
  induction d with
  | zero =>
    intro i h Y hd
    obtain rfl : i = 14 := by omega
    obtain ⟨y0, y1, y2, y3, y4, y5, y6, y7, y8⟩ := Y
    refine px (fun _ => pm_iload_n (pc := 98) d_Gr_init_98 rfl) ?_
    refine px (fun _ => pm_bipush (v := 14) (pc := 99) d_Gr_init_99 rfl) ?_
    refine pxb (fun _ => pm_icmp_ge (pc := 101) (tgt := 123) d_Gr_init_101 (by decide)) (fun c_1 => ?_) (fun c_1 => absurd ((nI_leI (a := 14) (b := 14) (by omega) (by omega)).mpr (by omega)) c_1)
    exact pxr (pm_vret (pc := 123) d_Gr_init_123 rfl) ⟨rfl, y0, y1, y2, y3, y4, y5, ⟨0, 1, 1, y6⟩, y7, y8⟩
  | succ d ih =>
    intro i h Y hd
    obtain ⟨y0, y1, y2, ⟨f2, y3, y3f⟩, y4, y5, y6, y7, y8⟩ := Y
    refine px (fun _ => pm_iload_n (pc := 98) d_Gr_init_98 rfl) ?_
    refine px (fun _ => pm_bipush (v := 14) (pc := 99) d_Gr_init_99 rfl) ?_
    refine pxb (fun _ => pm_icmp_ge (pc := 101) (tgt := 123) d_Gr_init_101 (by decide)) (fun c_1 => absurd ((nI_leI (a := 14) (b := i) (by omega) (by omega)).mp c_1) (by omega)) (fun c_1 => ?_)
    refine px (fun _ => pm_aload_n (pc := 104) d_Gr_init_104 rfl) ?_
    refine px (fun _ => pm_getf fl_Gr_17 (pc := 105) d_Gr_init_105 y1 rfl) ?_
    refine px (fun _ => pm_iload_n (pc := 108) d_Gr_init_108 rfl) ?_
    refine px (fun _ z9 => pm_Ev.more (kc := 1 + (2 * d) + 1) (ks := 3 + (12 * d) + 9) (by omega) (by omega) (pm_new (kc := 1 + (2 * d)) (ks := 3 + (12 * d)) (ci := 0) (T := T_Nd) (t0 := t_Nd) (fs := [.null, .int 0, .int 0, .int 0, .int 0, .int 0, .int 0, .int 0, .int 0]) (pc := 109) d_Gr_init_109 rfl u_Nd t_Nd_ok (pm_t1 (i := 28) rfl rfl) (pm_t1 (i := 80) rfl rfl) (pm_t1 (i := 4) rfl rfl) (by intro j hj; rcases j with _ | _ | _ | _ | _ | _ | _ | _ | _ | j <;> first | rfl | omega) z9)) ?_
    rw [y0]
    have x0 := ap_len (c := pm_Ob 0 [.null, .int 0, .int 0, .int 0, .int 0, .int 0, .int 0, .int 0, .int 0]) y0
    have x1 := ap_new (c := pm_Ob 0 [.null, .int 0, .int 0, .int 0, .int 0, .int 0, .int 0, .int 0, .int 0]) y0
    have x2 : ∀ k, k < 67 + 2 * i → (h ++ [pm_Ob 0 [.null, .int 0, .int 0, .int 0, .int 0, .int 0, .int 0, .int 0, .int 0]])[k]? = h[k]? := fun k hk => ap_fr y0 hk
    generalize h ++ [pm_Ob 0 [.null, .int 0, .int 0, .int 0, .int 0, .int 0, .int 0, .int 0, .int 0]] = h1 at x0 x1 x2 ⊢
    refine px (fun _ => pm_dup (pc := 112) d_Gr_init_112 rfl) ?_
    obtain ⟨⟨o9, h2⟩, ⟨z1, w0, w1, w2, w4⟩, en9⟩ := i_Nd (l := l) (G := G) hl x1 x0 (by omega)
    dsimp only at z1 w0 w1 w2 w4
    subst z1
    have w5 : ∀ k, k < 67 + 2 * i → h2[k]? = h[k]? := fun k hk => by rw [w4 k (by omega) (by omega)]; exact x2 k hk
    refine px (fun _ => k_Gr_init_113 (kc1 := 1) (ks1 := 3) (kc := 2 * d) (ks := 12 * d) (av := []) (st := [.ref (67 + 2 * i), .int (nI i), .ref 2]) en9 rfl rfl (Nat.le_of_ble_eq_true rfl)) ?_
    have w6 : h2[2]? = some (pm_Rf 4 14 f2) := by rw [w5 2 (by omega)]; exact y3
    refine px (fun _ => pm_aast (kd := 4) (Cn := "GraphRunner$Node") (ci := 0) (T := T_Nd) (N := 9) (j := i) (pc := 116) d_Gr_init_116 (fun _ => rfl) w6 w1 rfl rfl (by omega) (by decide)) ?_
    refine px (fun _ => pm_iinc (x := nI i) (v := nI (i + 1)) (lv' := [(1, .int (nI (i + 1))), (0, .ref 0)]) (pc := 117) d_Gr_init_117 rfl (nI_1 _) (by decide) rfl) ?_
    refine px (fun _ => pm_goto (tgt := 98) (pc := 120) d_Gr_init_120 (by decide)) ?_
    refine ih (i + 1) _ ?_ (by omega)
    refine ⟨by rw [List.length_set, w0]; omega, ?_, ?_, ⟨_, g_ss w6, fun n hn => ?_⟩, ?_, ?_, ?_, fun s hs => ?_, fun n hn => ?_⟩
    · rw [List.getElem?_set_ne (by omega), w5 _ (by omega)]; exact y1
    · obtain ⟨f1, q1, q2⟩ := y2
      exact ⟨f1, by rw [List.getElem?_set_ne (by omega), w5 _ (by omega)]; exact q1, q2⟩
    · simp only [va_up]
      by_cases e : n = i
      · rw [if_pos e, e]
      · rw [if_neg e]; exact y3f n (by omega)
    · rw [List.getElem?_set_ne (by omega), w5 _ (by omega)]; exact y4
    · rw [List.getElem?_set_ne (by omega), w5 _ (by omega)]; exact y5
    · rw [List.getElem?_set_ne (by omega), w5 _ (by omega)]; exact y6
    · rw [List.getElem?_set_ne (by omega), w5 _ (by omega), List.getElem?_set_ne (by omega), w5 _ (by omega), List.getElem?_set_ne (by omega), w5 _ (by omega)]; exact y7 s hs
    · rw [List.getElem?_set_ne (by omega), List.getElem?_set_ne (by omega)]
      by_cases e : n = i
      · subst e
        refine ⟨?_, by rw [show 68 + 2 * n = 67 + 2 * n + 1 by omega]; exact w2⟩
        rw [w1, show 67 + 2 * n + 1 = 68 + 2 * n by omega]; rfl
      · rw [w5 _ (by omega), w5 _ (by omega)]; exact y8 n (by omega)
set_option maxHeartbeats 1000000 in
set_option maxRecDepth 20000 in
theorem lp_is {l : Launch} {G : pm_G} (hl : l.stackTraces = false) : ∀ (d i : Nat) (h : pm_H), gZ i h → i + d = 20 → pm_Px l G true true (3 * d + 28) (23 * d + 168) M_Gr_init 71 [(1, .int (nI i)), (0, .ref (0))] [] h (fun r => r.1 = .inl none ∧ r.2.length = 95 ∧ gH gS0 r.2) := by
  intro d
  induction d with
  | zero =>
    intro i h Y hd
    obtain rfl : i = 20 := by omega
    obtain ⟨y0, y1, y2, y3, y4, y5, y6, y7⟩ := Y
    refine px (fun _ => pm_iload_n (pc := 71) d_Gr_init_71 rfl) ?_
    refine px (fun _ => pm_bipush (v := 20) (pc := 72) d_Gr_init_72 rfl) ?_
    refine pxb (fun _ => pm_icmp_ge (pc := 74) (tgt := 96) d_Gr_init_74 (by decide)) (fun c_1 => ?_) (fun c_1 => absurd ((nI_leI (a := 20) (b := 20) (by omega) (by omega)).mpr (by omega)) c_1)
    refine px (fun _ => pm_iconst (v := 0) (pc := 96) d_Gr_init_96 rfl) ?_
    refine px (fun _ => pm_istore_n (lv' := [(1, .int (0)), (0, .ref (0))]) (pc := 97) d_Gr_init_97 (by decide) rfl) ?_
    refine pxd [0, 1] rfl ?_
    exact lp_in hl 14 0 h ⟨y0, y1, y2, ⟨_, y3, fun n hn => by omega⟩, y4, y5, y6, y7, fun n hn => by omega⟩ (by omega)
  | succ d ih =>
    intro i h Y hd
    obtain ⟨y0, y1, ⟨f2, y2, y2f⟩, y3, y4, y5, y6, y7⟩ := Y
    refine px (fun _ => pm_iload_n (pc := 71) d_Gr_init_71 rfl) ?_
    refine px (fun _ => pm_bipush (v := 20) (pc := 72) d_Gr_init_72 rfl) ?_
    refine pxb (fun _ => pm_icmp_ge (pc := 74) (tgt := 96) d_Gr_init_74 (by decide)) (fun c_1 => absurd ((nI_leI (a := 20) (b := i) (by omega) (by omega)).mp c_1) (by omega)) (fun c_1 => ?_)
    refine px (fun _ => pm_aload_n (pc := 77) d_Gr_init_77 rfl) ?_
    refine px (fun _ => pm_getf fl_Gr_11 (pc := 78) d_Gr_init_78 y1 rfl) ?_
    refine px (fun _ => pm_iload_n (pc := 81) d_Gr_init_81 rfl) ?_
    refine px (fun _ z9 => pm_Ev.more (kc := 2 + (3 * d + 28) + 1) (ks := 20 + (23 * d + 168) + 3) (by omega) (by omega) (pm_new (kc := 2 + (3 * d + 28)) (ks := 20 + (23 * d + 168)) (ci := 1) (T := T_Sl) (t0 := t_Sl) (fs := [.null, .int 0, .int 0]) (pc := 82) d_Gr_init_82 rfl u_Sl t_Sl_ok (pm_t1 (i := 26) rfl rfl) (pm_t1 (i := 60) rfl rfl) (pm_t1 (i := 3) rfl rfl) (by intro j hj; rcases j with _ | _ | _ | j <;> first | rfl | omega) z9)) ?_
    rw [y0]
    have x0 := ap_len (c := pm_Ob 1 [.null, .int 0, .int 0]) y0
    have x1 := ap_new (c := pm_Ob 1 [.null, .int 0, .int 0]) y0
    have x2 : ∀ k, k < 7 + 3 * i → (h ++ [pm_Ob 1 [.null, .int 0, .int 0]])[k]? = h[k]? := fun k hk => ap_fr y0 hk
    generalize h ++ [pm_Ob 1 [.null, .int 0, .int 0]] = h1 at x0 x1 x2 ⊢
    refine px (fun _ => pm_dup (pc := 85) d_Gr_init_85 rfl) ?_
    obtain ⟨⟨o9, h2⟩, ⟨z1, w0, w1, w2, w3, w4⟩, en9⟩ := i_Sl (l := l) (G := G) hl x1 x0 (by omega)
    dsimp only at z1 w0 w1 w2 w3 w4
    subst z1
    have w5 : ∀ k, k < 7 + 3 * i → h2[k]? = h[k]? := fun k hk => by rw [w4 k (by omega) (by omega)]; exact x2 k hk
    refine px (fun _ => k_Gr_init_86 (kc1 := 2) (ks1 := 20) (kc := 3 * d + 28) (ks := 23 * d + 168) (av := []) (st := [.ref (7 + 3 * i), .int (nI i), .ref 1]) en9 rfl rfl (Nat.le_of_ble_eq_true rfl)) ?_
    have w6 : h2[1]? = some (pm_Rf 3 20 f2) := by rw [w5 1 (by omega)]; exact y2
    refine px (fun _ => pm_aast (kd := 3) (Cn := "GraphRunner$Slot") (ci := 1) (T := T_Sl) (N := 3) (j := i) (pc := 89) d_Gr_init_89 (fun _ => rfl) w6 w1 rfl rfl (by omega) (by decide)) ?_
    refine px (fun _ => pm_iinc (x := nI i) (v := nI (i + 1)) (lv' := [(1, .int (nI (i + 1))), (0, .ref 0)]) (pc := 90) d_Gr_init_90 rfl (nI_1 _) (by decide) rfl) ?_
    refine px (fun _ => pm_goto (tgt := 71) (pc := 93) d_Gr_init_93 (by decide)) ?_
    refine ih (i + 1) _ ?_ (by omega)
    refine ⟨by rw [List.length_set, w0]; omega, ?_, ⟨_, g_ss w6, fun n hn => ?_⟩, ?_, ?_, ?_, ?_, fun s hs => ?_⟩
    · rw [List.getElem?_set_ne (by omega), w5 _ (by omega)]; exact y1
    · simp only [va_up]
      by_cases e : n = i
      · rw [if_pos e, e]
      · rw [if_neg e]; exact y2f n (by omega)
    · rw [List.getElem?_set_ne (by omega), w5 _ (by omega)]; exact y3
    · rw [List.getElem?_set_ne (by omega), w5 _ (by omega)]; exact y4
    · rw [List.getElem?_set_ne (by omega), w5 _ (by omega)]; exact y5
    · rw [List.getElem?_set_ne (by omega), w5 _ (by omega)]; exact y6
    · rw [List.getElem?_set_ne (by omega), List.getElem?_set_ne (by omega), List.getElem?_set_ne (by omega)]
      by_cases e : s = i
      · subst e
        refine ⟨?_, ?_, ?_⟩
        · rw [w1, show 7 + 3 * s + 1 = 8 + 3 * s by omega]; rfl
        · rw [show 8 + 3 * s = 7 + 3 * s + 1 by omega, w2, show 7 + 3 * s + 1 + 1 = 9 + 3 * s by omega]; rfl
        · rw [show 9 + 3 * s = 7 + 3 * s + 1 + 1 by omega]; exact w3
      · rw [w5 _ (by omega), w5 _ (by omega), w5 _ (by omega)]; exact y7 s (by omega)
set_option maxHeartbeats 1000000 in
set_option maxRecDepth 20000 in
theorem i_Gr {l : Launch} {G : pm_G}  {h : pm_H} (hl : l.stackTraces = false) (ha : h[0]? = some (pm_Ob 3 [.null, .null, .null, .null, .null, .int 0, .int 0, .int 0, .int 0])) (hN : h.length = 1) : pm_CnA l G true true 94 710 M_Gr_init [.ref (0)] h (fun r => r.1 = .inl none ∧ r.2.length = 95 ∧ gH gS0 r.2) := by
  refine pm_CnA.of hl (by decide) (Nat.le_of_ble_eq_true rfl) ?_
  refine pxA (fun _ => pa_aload_n (pc := 0) d_Gr_init_0 rfl) ?_
  refine pxA (fun _ => pa_objI (pm_t1 (i := 23) rfl rfl) (pm_t1 (i := 24) rfl rfl) (pm_t1 (i := 25) rfl rfl) (pc := 1) d_Gr_init_1 (by decide) (by decide)) ?_
  refine pxA (fun _ => pa_aload_n (pc := 4) d_Gr_init_4 rfl) ?_
  refine pxA (fun _ => pa_bipush (v := 20) (pc := 5) d_Gr_init_5 rfl) ?_
  refine pxA (fun _ => pa_anew (kc := 93) (ks := 690) (kd := 3) (N := 20) (Cn := "GraphRunner$Slot") (pc := 7) d_Gr_init_7 (fun _ => rfl) (pm_t1 (i := 26) rfl rfl) (fun A a => (A a).1) rfl (by decide) (by decide)) ?_
  rw [hN]
  obtain ⟨h_1, e_1⟩ : ∃ h9, h9 = h ++ [pm_Rf 3 20 (fun _ => none)] := ⟨_, rfl⟩
  rw [← e_1]
  have f_1_0 : h_1[0]? = some (pm_Ob 3 [.null, .null, .null, .null, .null, .int 0, .int 0, .int 0, .int 0]) := by rw [e_1]; exact ap_old ha
  have l_1 : h_1.length = 1 + 1 := by rw [e_1]; exact ap_len hN
  have f_1_n : h_1[1]? = some (pm_Rf 3 20 (fun _ => none)) := by rw [e_1]; exact ap_new hN
  have r_1 : ∀ k, k < 1 → k ≠ 0 → h_1[k]? = h[k]? := fun k h1 h2 => Eq.trans (b := h[k]?) (by rw [e_1, ap_fr hN (by omega)]) (rfl)
  refine pxA (fun _ => pa_putFC (c' := pm_Ob 3 [.ref 1, .null, .null, .null, .null, .int 0, .int 0, .int 0, .int 0]) ff_Gr_11 rfl (pc := 10) d_Gr_init_10 f_1_0 (Nat.le_of_ble_eq_true rfl) rfl rfl rfl) ?_
  obtain ⟨h_2, e_2⟩ : ∃ h9, h9 = h_1.set (0) (pm_Ob 3 [.ref 1, .null, .null, .null, .null, .int 0, .int 0, .int 0, .int 0]) := ⟨_, rfl⟩
  rw [← e_2]
  have f_2_1 : h_2[1]? = some (pm_Rf 3 20 (fun _ => none)) := by rw [e_2]; exact g_sn f_1_n (by omega)
  have f_2_s : h_2[0]? = some (pm_Ob 3 [.ref 1, .null, .null, .null, .null, .int 0, .int 0, .int 0, .int 0]) := by rw [e_2]; exact g_ss f_1_0
  have l_2 : h_2.length = 2 := by rw [e_2]; exact st_len l_1
  have r_2 : ∀ k, k < 1 → k ≠ 0 → h_2[k]? = h[k]? := fun k h1 h2 => Eq.trans (b := h_1[k]?) (by rw [e_2, List.getElem?_set_ne (by omega)]) (r_1 k h1 h2)
  refine pxA (fun _ => pa_aload_n (pc := 13) d_Gr_init_13 rfl) ?_
  refine pxA (fun _ => pa_bipush (v := 14) (pc := 14) d_Gr_init_14 rfl) ?_
  refine pxA (fun _ => pa_anew (kc := 92) (ks := 676) (kd := 4) (N := 14) (Cn := "GraphRunner$Node") (pc := 16) d_Gr_init_16 (fun _ => rfl) (pm_t1 (i := 28) rfl rfl) (fun A a => (A a).2) rfl (by decide) (by decide)) ?_
  rw [l_2]
  obtain ⟨h_3, e_3⟩ : ∃ h9, h9 = h_2 ++ [pm_Rf 4 14 (fun _ => none)] := ⟨_, rfl⟩
  rw [← e_3]
  have f_3_0 : h_3[0]? = some (pm_Ob 3 [.ref 1, .null, .null, .null, .null, .int 0, .int 0, .int 0, .int 0]) := by rw [e_3]; exact ap_old f_2_s
  have f_3_1 : h_3[1]? = some (pm_Rf 3 20 (fun _ => none)) := by rw [e_3]; exact ap_old f_2_1
  have l_3 : h_3.length = 2 + 1 := by rw [e_3]; exact ap_len l_2
  have f_3_n : h_3[2]? = some (pm_Rf 4 14 (fun _ => none)) := by rw [e_3]; exact ap_new l_2
  have r_3 : ∀ k, k < 1 → k ≠ 0 → h_3[k]? = h[k]? := fun k h1 h2 => Eq.trans (b := h_2[k]?) (by rw [e_3, ap_fr l_2 (by omega)]) (r_2 k h1 h2)
  refine pxA (fun _ => pa_putFC (c' := pm_Ob 3 [.ref 1, .ref 2, .null, .null, .null, .int 0, .int 0, .int 0, .int 0]) ff_Gr_17 rfl (pc := 19) d_Gr_init_19 f_3_0 (Nat.le_of_ble_eq_true rfl) rfl rfl rfl) ?_
  obtain ⟨h_4, e_4⟩ : ∃ h9, h9 = h_3.set (0) (pm_Ob 3 [.ref 1, .ref 2, .null, .null, .null, .int 0, .int 0, .int 0, .int 0]) := ⟨_, rfl⟩
  rw [← e_4]
  have f_4_1 : h_4[1]? = some (pm_Rf 3 20 (fun _ => none)) := by rw [e_4]; exact g_sn f_3_1 (by omega)
  have f_4_2 : h_4[2]? = some (pm_Rf 4 14 (fun _ => none)) := by rw [e_4]; exact g_sn f_3_n (by omega)
  have f_4_s : h_4[0]? = some (pm_Ob 3 [.ref 1, .ref 2, .null, .null, .null, .int 0, .int 0, .int 0, .int 0]) := by rw [e_4]; exact g_ss f_3_0
  have l_4 : h_4.length = 3 := by rw [e_4]; exact st_len l_3
  have r_4 : ∀ k, k < 1 → k ≠ 0 → h_4[k]? = h[k]? := fun k h1 h2 => Eq.trans (b := h_3[k]?) (by rw [e_4, List.getElem?_set_ne (by omega)]) (r_3 k h1 h2)
  refine pxA_of ?_
  refine px (fun _ => pm_aload_n (pc := 22) d_Gr_init_22 rfl) ?_
  refine px (fun _ => pm_bipush (v := 14) (pc := 23) d_Gr_init_23 rfl) ?_
  refine px (fun _ => pm_newa (kc := 91) (ks := 662) (kd := 0) (N := 14) (a0 := (14, .inl fun _ => 0)) (pc := 25) d_Gr_init_25 (pm_t1 (i := 58) rfl rfl) (fun _ => rfl) (fun _ => rfl) (fun _ => rfl) rfl (by decide) (by decide)) ?_
  rw [l_4]
  obtain ⟨h_5, e_5⟩ : ∃ h9, h9 = h_4 ++ [pm_I 14 (fun _ => 0)] := ⟨_, rfl⟩
  rw [← e_5]
  have f_5_0 : h_5[0]? = some (pm_Ob 3 [.ref 1, .ref 2, .null, .null, .null, .int 0, .int 0, .int 0, .int 0]) := by rw [e_5]; exact ap_old f_4_s
  have f_5_1 : h_5[1]? = some (pm_Rf 3 20 (fun _ => none)) := by rw [e_5]; exact ap_old f_4_1
  have f_5_2 : h_5[2]? = some (pm_Rf 4 14 (fun _ => none)) := by rw [e_5]; exact ap_old f_4_2
  have l_5 : h_5.length = 3 + 1 := by rw [e_5]; exact ap_len l_4
  have f_5_n : h_5[3]? = some (pm_I 14 (fun _ => 0)) := by rw [e_5]; exact ap_new l_4
  have r_5 : ∀ k, k < 1 → k ≠ 0 → h_5[k]? = h[k]? := fun k h1 h2 => Eq.trans (b := h_4[k]?) (by rw [e_5, ap_fr l_4 (by omega)]) (r_4 k h1 h2)
  refine px (fun _ => pm_putFC (c' := pm_Ob 3 [.ref 1, .ref 2, .ref 3, .null, .null, .int 0, .int 0, .int 0, .int 0]) ff_Gr_21 rfl (pc := 27) d_Gr_init_27 f_5_0 (Nat.le_of_ble_eq_true rfl) rfl rfl rfl) ?_
  obtain ⟨h_6, e_6⟩ : ∃ h9, h9 = h_5.set (0) (pm_Ob 3 [.ref 1, .ref 2, .ref 3, .null, .null, .int 0, .int 0, .int 0, .int 0]) := ⟨_, rfl⟩
  rw [← e_6]
  have f_6_1 : h_6[1]? = some (pm_Rf 3 20 (fun _ => none)) := by rw [e_6]; exact g_sn f_5_1 (by omega)
  have f_6_2 : h_6[2]? = some (pm_Rf 4 14 (fun _ => none)) := by rw [e_6]; exact g_sn f_5_2 (by omega)
  have f_6_3 : h_6[3]? = some (pm_I 14 (fun _ => 0)) := by rw [e_6]; exact g_sn f_5_n (by omega)
  have f_6_s : h_6[0]? = some (pm_Ob 3 [.ref 1, .ref 2, .ref 3, .null, .null, .int 0, .int 0, .int 0, .int 0]) := by rw [e_6]; exact g_ss f_5_0
  have l_6 : h_6.length = 4 := by rw [e_6]; exact st_len l_5
  have r_6 : ∀ k, k < 1 → k ≠ 0 → h_6[k]? = h[k]? := fun k h1 h2 => Eq.trans (b := h_5[k]?) (by rw [e_6, List.getElem?_set_ne (by omega)]) (r_5 k h1 h2)
  refine px (fun _ => pm_aload_n (pc := 30) d_Gr_init_30 rfl) ?_
  refine px (fun _ => pm_bipush (v := 14) (pc := 31) d_Gr_init_31 rfl) ?_
  refine px (fun _ => pm_newa (kc := 90) (ks := 648) (kd := 0) (N := 14) (a0 := (14, .inl fun _ => 0)) (pc := 33) d_Gr_init_33 (pm_t1 (i := 58) rfl rfl) (fun _ => rfl) (fun _ => rfl) (fun _ => rfl) rfl (by decide) (by decide)) ?_
  rw [l_6]
  obtain ⟨h_7, e_7⟩ : ∃ h9, h9 = h_6 ++ [pm_I 14 (fun _ => 0)] := ⟨_, rfl⟩
  rw [← e_7]
  have f_7_0 : h_7[0]? = some (pm_Ob 3 [.ref 1, .ref 2, .ref 3, .null, .null, .int 0, .int 0, .int 0, .int 0]) := by rw [e_7]; exact ap_old f_6_s
  have f_7_1 : h_7[1]? = some (pm_Rf 3 20 (fun _ => none)) := by rw [e_7]; exact ap_old f_6_1
  have f_7_2 : h_7[2]? = some (pm_Rf 4 14 (fun _ => none)) := by rw [e_7]; exact ap_old f_6_2
  have f_7_3 : h_7[3]? = some (pm_I 14 (fun _ => 0)) := by rw [e_7]; exact ap_old f_6_3
  have l_7 : h_7.length = 4 + 1 := by rw [e_7]; exact ap_len l_6
  have f_7_n : h_7[4]? = some (pm_I 14 (fun _ => 0)) := by rw [e_7]; exact ap_new l_6
  have r_7 : ∀ k, k < 1 → k ≠ 0 → h_7[k]? = h[k]? := fun k h1 h2 => Eq.trans (b := h_6[k]?) (by rw [e_7, ap_fr l_6 (by omega)]) (r_6 k h1 h2)
  refine px (fun _ => pm_putFC (c' := pm_Ob 3 [.ref 1, .ref 2, .ref 3, .ref 4, .null, .int 0, .int 0, .int 0, .int 0]) ff_Gr_25 rfl (pc := 35) d_Gr_init_35 f_7_0 (Nat.le_of_ble_eq_true rfl) rfl rfl rfl) ?_
  obtain ⟨h_8, e_8⟩ : ∃ h9, h9 = h_7.set (0) (pm_Ob 3 [.ref 1, .ref 2, .ref 3, .ref 4, .null, .int 0, .int 0, .int 0, .int 0]) := ⟨_, rfl⟩
  rw [← e_8]
  have f_8_1 : h_8[1]? = some (pm_Rf 3 20 (fun _ => none)) := by rw [e_8]; exact g_sn f_7_1 (by omega)
  have f_8_2 : h_8[2]? = some (pm_Rf 4 14 (fun _ => none)) := by rw [e_8]; exact g_sn f_7_2 (by omega)
  have f_8_3 : h_8[3]? = some (pm_I 14 (fun _ => 0)) := by rw [e_8]; exact g_sn f_7_3 (by omega)
  have f_8_4 : h_8[4]? = some (pm_I 14 (fun _ => 0)) := by rw [e_8]; exact g_sn f_7_n (by omega)
  have f_8_s : h_8[0]? = some (pm_Ob 3 [.ref 1, .ref 2, .ref 3, .ref 4, .null, .int 0, .int 0, .int 0, .int 0]) := by rw [e_8]; exact g_ss f_7_0
  have l_8 : h_8.length = 5 := by rw [e_8]; exact st_len l_7
  have r_8 : ∀ k, k < 1 → k ≠ 0 → h_8[k]? = h[k]? := fun k h1 h2 => Eq.trans (b := h_7[k]?) (by rw [e_8, List.getElem?_set_ne (by omega)]) (r_7 k h1 h2)
  refine px (fun _ => pm_aload_n (pc := 38) d_Gr_init_38 rfl) ?_
  refine px (fun _ => pm_new (kc := 89) (ks := 644) (ci := 2) (T := T_Tb) (t0 := t_Tb) (fs := [.null, .int 0, .int 0, .int 0]) (pc := 39) d_Gr_init_39 rfl u_Tb t_Tb_ok (pm_t1 (i := 30) rfl rfl) (pm_t1 (i := 31) rfl rfl) (pm_t1 (i := 2) rfl rfl) (by intro j hj; rcases j with _ | _ | _ | _ | j <;> first | rfl | omega)) ?_
  rw [l_8]
  obtain ⟨h_9, e_9⟩ : ∃ h9, h9 = h_8 ++ [pm_Ob 2 [.null, .int 0, .int 0, .int 0]] := ⟨_, rfl⟩
  rw [← e_9]
  have f_9_0 : h_9[0]? = some (pm_Ob 3 [.ref 1, .ref 2, .ref 3, .ref 4, .null, .int 0, .int 0, .int 0, .int 0]) := by rw [e_9]; exact ap_old f_8_s
  have f_9_1 : h_9[1]? = some (pm_Rf 3 20 (fun _ => none)) := by rw [e_9]; exact ap_old f_8_1
  have f_9_2 : h_9[2]? = some (pm_Rf 4 14 (fun _ => none)) := by rw [e_9]; exact ap_old f_8_2
  have f_9_3 : h_9[3]? = some (pm_I 14 (fun _ => 0)) := by rw [e_9]; exact ap_old f_8_3
  have f_9_4 : h_9[4]? = some (pm_I 14 (fun _ => 0)) := by rw [e_9]; exact ap_old f_8_4
  have l_9 : h_9.length = 5 + 1 := by rw [e_9]; exact ap_len l_8
  have f_9_n : h_9[5]? = some (pm_Ob 2 [.null, .int 0, .int 0, .int 0]) := by rw [e_9]; exact ap_new l_8
  have r_9 : ∀ k, k < 1 → k ≠ 0 → h_9[k]? = h[k]? := fun k h1 h2 => Eq.trans (b := h_8[k]?) (by rw [e_9, ap_fr l_8 (by omega)]) (r_8 k h1 h2)
  refine px (fun _ => pm_dup (pc := 42) d_Gr_init_42 rfl) ?_
  obtain ⟨⟨o_10, h_10⟩, ⟨z_10, l_10, a_10, b_10_0, q_10⟩, en_10⟩ := i_Tb (l := l) (G := G) hl f_9_n l_9 (by omega)
  dsimp only at z_10 l_10 a_10 b_10_0 q_10
  subst z_10
  refine px (fun _ => k_Gr_init_43 (kc1 := 1) (ks1 := 16) (kc := 88) (ks := 628) (av := []) (st := [.ref (5), .ref (0)]) (en_10) rfl rfl (Nat.le_of_ble_eq_true rfl)) ?_
  have f_10_0 : h_10[0]? = some (pm_Ob 3 [.ref 1, .ref 2, .ref 3, .ref 4, .null, .int 0, .int 0, .int 0, .int 0]) := by rw [q_10 (0) (by omega) (by omega)]; exact f_9_0
  have f_10_1 : h_10[1]? = some (pm_Rf 3 20 (fun _ => none)) := by rw [q_10 (1) (by omega) (by omega)]; exact f_9_1
  have f_10_2 : h_10[2]? = some (pm_Rf 4 14 (fun _ => none)) := by rw [q_10 (2) (by omega) (by omega)]; exact f_9_2
  have f_10_3 : h_10[3]? = some (pm_I 14 (fun _ => 0)) := by rw [q_10 (3) (by omega) (by omega)]; exact f_9_3
  have f_10_4 : h_10[4]? = some (pm_I 14 (fun _ => 0)) := by rw [q_10 (4) (by omega) (by omega)]; exact f_9_4
  have r_10 : ∀ k, k < 1 → k ≠ 0 → h_10[k]? = h[k]? := fun k h1 h2 => by rw [q_10 k (by omega) (by omega)]; exact r_9 k h1 h2
  refine px (fun _ => pm_putFC (c' := pm_Ob 3 [.ref 1, .ref 2, .ref 3, .ref 4, .ref 5, .int 0, .int 0, .int 0, .int 0]) ff_Gr_31 rfl (pc := 46) d_Gr_init_46 f_10_0 (Nat.le_of_ble_eq_true rfl) rfl rfl rfl) ?_
  obtain ⟨h_11, e_11⟩ : ∃ h9, h9 = h_10.set (0) (pm_Ob 3 [.ref 1, .ref 2, .ref 3, .ref 4, .ref 5, .int 0, .int 0, .int 0, .int 0]) := ⟨_, rfl⟩
  rw [← e_11]
  have f_11_1 : h_11[1]? = some (pm_Rf 3 20 (fun _ => none)) := by rw [e_11]; exact g_sn f_10_1 (by omega)
  have f_11_2 : h_11[2]? = some (pm_Rf 4 14 (fun _ => none)) := by rw [e_11]; exact g_sn f_10_2 (by omega)
  have f_11_3 : h_11[3]? = some (pm_I 14 (fun _ => 0)) := by rw [e_11]; exact g_sn f_10_3 (by omega)
  have f_11_4 : h_11[4]? = some (pm_I 14 (fun _ => 0)) := by rw [e_11]; exact g_sn f_10_4 (by omega)
  have f_11_5 : h_11[5]? = some (pm_Ob 2 [.ref (6), .int 0, .int 1, .int 1]) := by rw [e_11]; exact g_sn a_10 (by omega)
  have f_11_6 : h_11[6]? = some (pm_Dd 16 (fun _ => 0)) := by rw [e_11]; exact g_sn b_10_0 (by omega)
  have f_11_s : h_11[0]? = some (pm_Ob 3 [.ref 1, .ref 2, .ref 3, .ref 4, .ref 5, .int 0, .int 0, .int 0, .int 0]) := by rw [e_11]; exact g_ss f_10_0
  have l_11 : h_11.length = 7 := by rw [e_11]; exact st_len l_10
  have r_11 : ∀ k, k < 1 → k ≠ 0 → h_11[k]? = h[k]? := fun k h1 h2 => Eq.trans (b := h_10[k]?) (by rw [e_11, List.getElem?_set_ne (by omega)]) (r_10 k h1 h2)
  refine px (fun _ => pm_aload_n (pc := 49) d_Gr_init_49 rfl) ?_
  refine px (fun _ => pm_iconst (v := 0) (pc := 50) d_Gr_init_50 rfl) ?_
  refine px (fun _ => pm_putfC (c' := pm_Ob 3 [.ref 1, .ref 2, .ref 3, .ref 4, .ref 5, .int 0, .int 0, .int 0, .int 0]) fp_Gr_35 (pc := 51) d_Gr_init_51 f_11_s (Nat.le_of_ble_eq_true rfl) rfl rfl rfl) ?_
  obtain ⟨h_12, e_12⟩ : ∃ h9, h9 = h_11.set (0) (pm_Ob 3 [.ref 1, .ref 2, .ref 3, .ref 4, .ref 5, .int 0, .int 0, .int 0, .int 0]) := ⟨_, rfl⟩
  rw [← e_12]
  have f_12_1 : h_12[1]? = some (pm_Rf 3 20 (fun _ => none)) := by rw [e_12]; exact g_sn f_11_1 (by omega)
  have f_12_2 : h_12[2]? = some (pm_Rf 4 14 (fun _ => none)) := by rw [e_12]; exact g_sn f_11_2 (by omega)
  have f_12_3 : h_12[3]? = some (pm_I 14 (fun _ => 0)) := by rw [e_12]; exact g_sn f_11_3 (by omega)
  have f_12_4 : h_12[4]? = some (pm_I 14 (fun _ => 0)) := by rw [e_12]; exact g_sn f_11_4 (by omega)
  have f_12_5 : h_12[5]? = some (pm_Ob 2 [.ref (6), .int 0, .int 1, .int 1]) := by rw [e_12]; exact g_sn f_11_5 (by omega)
  have f_12_6 : h_12[6]? = some (pm_Dd 16 (fun _ => 0)) := by rw [e_12]; exact g_sn f_11_6 (by omega)
  have f_12_s : h_12[0]? = some (pm_Ob 3 [.ref 1, .ref 2, .ref 3, .ref 4, .ref 5, .int 0, .int 0, .int 0, .int 0]) := by rw [e_12]; exact g_ss f_11_s
  have l_12 : h_12.length = 7 := by rw [e_12]; exact st_len l_11
  have r_12 : ∀ k, k < 1 → k ≠ 0 → h_12[k]? = h[k]? := fun k h1 h2 => Eq.trans (b := h_11[k]?) (by rw [e_12, List.getElem?_set_ne (by omega)]) (r_11 k h1 h2)
  refine px (fun _ => pm_aload_n (pc := 54) d_Gr_init_54 rfl) ?_
  refine px (fun _ => pm_iconst (v := 1) (pc := 55) d_Gr_init_55 rfl) ?_
  refine px (fun _ => pm_putfC (c' := pm_Ob 3 [.ref 1, .ref 2, .ref 3, .ref 4, .ref 5, .int 0, .int 1, .int 0, .int 0]) fp_Gr_39 (pc := 56) d_Gr_init_56 f_12_s (Nat.le_of_ble_eq_true rfl) rfl rfl rfl) ?_
  obtain ⟨h_13, e_13⟩ : ∃ h9, h9 = h_12.set (0) (pm_Ob 3 [.ref 1, .ref 2, .ref 3, .ref 4, .ref 5, .int 0, .int 1, .int 0, .int 0]) := ⟨_, rfl⟩
  rw [← e_13]
  have f_13_1 : h_13[1]? = some (pm_Rf 3 20 (fun _ => none)) := by rw [e_13]; exact g_sn f_12_1 (by omega)
  have f_13_2 : h_13[2]? = some (pm_Rf 4 14 (fun _ => none)) := by rw [e_13]; exact g_sn f_12_2 (by omega)
  have f_13_3 : h_13[3]? = some (pm_I 14 (fun _ => 0)) := by rw [e_13]; exact g_sn f_12_3 (by omega)
  have f_13_4 : h_13[4]? = some (pm_I 14 (fun _ => 0)) := by rw [e_13]; exact g_sn f_12_4 (by omega)
  have f_13_5 : h_13[5]? = some (pm_Ob 2 [.ref (6), .int 0, .int 1, .int 1]) := by rw [e_13]; exact g_sn f_12_5 (by omega)
  have f_13_6 : h_13[6]? = some (pm_Dd 16 (fun _ => 0)) := by rw [e_13]; exact g_sn f_12_6 (by omega)
  have f_13_s : h_13[0]? = some (pm_Ob 3 [.ref 1, .ref 2, .ref 3, .ref 4, .ref 5, .int 0, .int 1, .int 0, .int 0]) := by rw [e_13]; exact g_ss f_12_s
  have l_13 : h_13.length = 7 := by rw [e_13]; exact st_len l_12
  have r_13 : ∀ k, k < 1 → k ≠ 0 → h_13[k]? = h[k]? := fun k h1 h2 => Eq.trans (b := h_12[k]?) (by rw [e_13, List.getElem?_set_ne (by omega)]) (r_12 k h1 h2)
  refine px (fun _ => pm_aload_n (pc := 59) d_Gr_init_59 rfl) ?_
  refine px (fun _ => pm_iconst (v := 0) (pc := 60) d_Gr_init_60 rfl) ?_
  refine px (fun _ => pm_putfC (c' := pm_Ob 3 [.ref 1, .ref 2, .ref 3, .ref 4, .ref 5, .int 0, .int 1, .int 0, .int 0]) fp_Gr_43 (pc := 61) d_Gr_init_61 f_13_s (Nat.le_of_ble_eq_true rfl) rfl rfl rfl) ?_
  obtain ⟨h_14, e_14⟩ : ∃ h9, h9 = h_13.set (0) (pm_Ob 3 [.ref 1, .ref 2, .ref 3, .ref 4, .ref 5, .int 0, .int 1, .int 0, .int 0]) := ⟨_, rfl⟩
  rw [← e_14]
  have f_14_1 : h_14[1]? = some (pm_Rf 3 20 (fun _ => none)) := by rw [e_14]; exact g_sn f_13_1 (by omega)
  have f_14_2 : h_14[2]? = some (pm_Rf 4 14 (fun _ => none)) := by rw [e_14]; exact g_sn f_13_2 (by omega)
  have f_14_3 : h_14[3]? = some (pm_I 14 (fun _ => 0)) := by rw [e_14]; exact g_sn f_13_3 (by omega)
  have f_14_4 : h_14[4]? = some (pm_I 14 (fun _ => 0)) := by rw [e_14]; exact g_sn f_13_4 (by omega)
  have f_14_5 : h_14[5]? = some (pm_Ob 2 [.ref (6), .int 0, .int 1, .int 1]) := by rw [e_14]; exact g_sn f_13_5 (by omega)
  have f_14_6 : h_14[6]? = some (pm_Dd 16 (fun _ => 0)) := by rw [e_14]; exact g_sn f_13_6 (by omega)
  have f_14_s : h_14[0]? = some (pm_Ob 3 [.ref 1, .ref 2, .ref 3, .ref 4, .ref 5, .int 0, .int 1, .int 0, .int 0]) := by rw [e_14]; exact g_ss f_13_s
  have l_14 : h_14.length = 7 := by rw [e_14]; exact st_len l_13
  have r_14 : ∀ k, k < 1 → k ≠ 0 → h_14[k]? = h[k]? := fun k h1 h2 => Eq.trans (b := h_13[k]?) (by rw [e_14, List.getElem?_set_ne (by omega)]) (r_13 k h1 h2)
  refine px (fun _ => pm_aload_n (pc := 64) d_Gr_init_64 rfl) ?_
  refine px (fun _ => pm_iconst (v := 0) (pc := 65) d_Gr_init_65 rfl) ?_
  refine px (fun _ => pm_putfC (c' := pm_Ob 3 [.ref 1, .ref 2, .ref 3, .ref 4, .ref 5, .int 0, .int 1, .int 0, .int 0]) fp_Gr_46 (pc := 66) d_Gr_init_66 f_14_s (Nat.le_of_ble_eq_true rfl) rfl rfl rfl) ?_
  obtain ⟨h_15, e_15⟩ : ∃ h9, h9 = h_14.set (0) (pm_Ob 3 [.ref 1, .ref 2, .ref 3, .ref 4, .ref 5, .int 0, .int 1, .int 0, .int 0]) := ⟨_, rfl⟩
  rw [← e_15]
  have f_15_1 : h_15[1]? = some (pm_Rf 3 20 (fun _ => none)) := by rw [e_15]; exact g_sn f_14_1 (by omega)
  have f_15_2 : h_15[2]? = some (pm_Rf 4 14 (fun _ => none)) := by rw [e_15]; exact g_sn f_14_2 (by omega)
  have f_15_3 : h_15[3]? = some (pm_I 14 (fun _ => 0)) := by rw [e_15]; exact g_sn f_14_3 (by omega)
  have f_15_4 : h_15[4]? = some (pm_I 14 (fun _ => 0)) := by rw [e_15]; exact g_sn f_14_4 (by omega)
  have f_15_5 : h_15[5]? = some (pm_Ob 2 [.ref (6), .int 0, .int 1, .int 1]) := by rw [e_15]; exact g_sn f_14_5 (by omega)
  have f_15_6 : h_15[6]? = some (pm_Dd 16 (fun _ => 0)) := by rw [e_15]; exact g_sn f_14_6 (by omega)
  have f_15_s : h_15[0]? = some (pm_Ob 3 [.ref 1, .ref 2, .ref 3, .ref 4, .ref 5, .int 0, .int 1, .int 0, .int 0]) := by rw [e_15]; exact g_ss f_14_s
  have l_15 : h_15.length = 7 := by rw [e_15]; exact st_len l_14
  have r_15 : ∀ k, k < 1 → k ≠ 0 → h_15[k]? = h[k]? := fun k h1 h2 => Eq.trans (b := h_14[k]?) (by rw [e_15, List.getElem?_set_ne (by omega)]) (r_14 k h1 h2)
  refine px (fun _ => pm_iconst (v := 0) (pc := 69) d_Gr_init_69 rfl) ?_
  refine px (fun _ => pm_istore_n (lv' := [(1, .int 0), (0, .ref 0)]) (pc := 70) d_Gr_init_70 (by decide) rfl) ?_
  exact lp_is hl 20 0 _ ⟨l_15, f_15_s, ⟨_, f_15_1, fun s hs => by omega⟩, f_15_2, f_15_3, f_15_4, f_15_5, fun s hs => by omega⟩ (by omega)
