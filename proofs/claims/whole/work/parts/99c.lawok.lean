/-! ===== the law from its first row ===== -/
theorem gI_0 : gI gS0 := by
  refine ⟨⟨by decide, by decide, fun _ => (by decide : 0 < 14), fun _ => (by decide : 0 < 14), fun s _ => ⟨(by decide : 0 ≤ 3), (by decide : 0 < 14), (by decide : 0 ≤ 1), (by decide : 1 ≤ 1), (by decide : 1 ≤ 4), (by decide : 1 ≤ 1), (by decide : 1 ≤ 4)⟩, fun n _ => ⟨(by decide : 0 ≤ 3), (by decide : 0 ≤ 18), (by decide : 0 < 20), (by decide : 0 ≤ 1), (by decide : 0 ≤ 1), (by decide : 0 ≤ 1)⟩⟩, fun n hn => absurd hn (Nat.not_lt_zero n), fun n hn => absurd hn (Nat.not_lt_zero n), ⟨fun s _ h => absurd h (by decide : ¬ (0 = 3)), fun n hn => absurd hn (Nat.not_lt_zero n)⟩, fun n hn => absurd hn (Nat.not_lt_zero n), fun _ n hn => absurd hn (Nat.not_lt_zero n), fun _ => ⟨⟨id, fun n hn => absurd hn (Nat.not_lt_zero n), fun n hn => absurd hn (Nat.not_lt_zero n), fun n hn => absurd hn (Nat.not_lt_zero n)⟩, fun n hn => absurd hn (Nat.not_lt_zero n)⟩, fun s _ h => ?_⟩
  rcases h with (h | h) | h
  · exact absurd h (by decide : ¬ (0 = 1))
  · exact absurd h (by decide : ¬ (0 = 2))
  · exact absurd h.1 (by decide : ¬ (0 = 3))
theorem gR_0 : gR gS0 mT0 := by
  refine ⟨⟨rfl, rfl, rfl, fun s _ => ⟨rfl, fun h => absurd h (by decide : ¬ (0 = 3))⟩, fun n hn => absurd hn (Nat.not_lt_zero n)⟩, rfl, rfl, fun n hn => absurd hn (Nat.not_lt_zero n), fun s _ h => ?_, fun _ n hn => absurd hn (Nat.not_lt_zero n), fun s _ h => ?_⟩
  · rcases h with (h | h) | h
    · exact absurd h (by decide : ¬ (0 = 1))
    · exact absurd h (by decide : ¬ (0 = 2))
    · exact absurd h.1 (by decide : ¬ (0 = 3))
  · rcases h with (h | h) | h
    · exact absurd h (by decide : ¬ (0 = 1))
    · exact absurd h (by decide : ¬ (0 = 2))
    · exact absurd h.1 (by decide : ¬ (0 = 3))
theorem gH_old {S : gS} {h h2 : pm_H} (H : gH S h) (e : ∀ k, k < 95 → h2[k]? = h[k]?) : gH S h2 := by
  obtain ⟨h0, ⟨f1, h1, g1⟩, ⟨f2, h2', g2⟩, h3, h4, ⟨t5, r5, c5, h5⟩, hs, hn⟩ := H
  refine ⟨by rw [e 0 (by omega)]; exact h0, ⟨f1, by rw [e 1 (by omega)]; exact h1, g1⟩, ⟨f2, by rw [e 2 (by omega)]; exact h2', g2⟩, by rw [e 3 (by omega)]; exact h3, by rw [e 4 (by omega)]; exact h4, ⟨t5, r5, c5, by rw [e 5 (by omega)]; exact h5⟩, fun s hs9 => ?_, fun n hn9 => ?_⟩
  · rw [e _ (by omega), e _ (by omega), e _ (by omega)]; exact hs s hs9
  · rw [e _ (by omega), e _ (by omega)]; exact hn n hn9
set_option maxHeartbeats 1000000 in
set_option maxRecDepth 20000 in
theorem law_ok {l : Launch} {G : pm_G} (hl : l.stackTraces = false) (hL : G.2.2.2.2.1 ≤ 4096) : pm_PxA l G true false 624 4376 M_Lw_law 0 [(0, .retAddr 0)] [] [] (fun r => r.1 = .inl (some (.int 1))) := by
  refine pxA (fun _ => pa_new (kc := 623) (ks := 4367) (ci := 3) (T := T_Gr) (t0 := t_Gr) (fs := [.null, .null, .null, .null, .null, .int 0, .int 0, .int 0, .int 0]) (pc := 0) d_Lw_law_0 rfl u_Gr t_Gr_ok tw_18 tw_19 tw_1 (by intro j hj; rcases j with _ | _ | _ | _ | _ | _ | _ | _ | _ | j <;> first | rfl | omega)) ?_
  refine pxA (fun _ => pa_dup (pc := 3) d_Lw_law_3 rfl) ?_
  obtain ⟨⟨o9, h1⟩, ⟨e1, e2, e3⟩, en1⟩ := i_Gr (l := l) (G := G) (h := [pm_Ob 3 [.null, .null, .null, .null, .null, .int 0, .int 0, .int 0, .int 0]]) hl rfl rfl
  dsimp only at e1 e2 e3
  subst e1
  have hk : pm_Px l G true false 529 3657 M_Lw_law 7 [(0, .retAddr 0)] [.ref 0] h1 (fun r => r.1 = .inl (some (.int 1))) := by
    refine px (fun _ => pm_astore_n (lv' := [(1, .ref 0), (0, .retAddr 0)]) (pc := 7) d_Lw_law_7 (by decide) rfl) ?_
    refine px (fun _ => pm_new (kc := 528) (ks := 3636) (ci := 4) (T := T_Mo) (t0 := t_Mo) (fs := [.null, .null, .null, .null, .null, .null, .null, .null, .null, .null, .null, .null, .null, .null, .int 0, .int 0, .int 0, .int 0, .int 0, .int 0, .int 0]) (pc := 8) d_Lw_law_8 rfl u_Mo t_Mo_ok tw_610 tw_611 tw_5 (by intro j hj; rcases j with _ | _ | _ | _ | _ | _ | _ | _ | _ | _ | _ | _ | _ | _ | _ | _ | _ | _ | _ | _ | _ | j <;> first | rfl | omega)) ?_
    rw [e2]
    obtain ⟨h2, x2⟩ : ∃ h9, h9 = h1 ++ [pm_Ob 4 [.null, .null, .null, .null, .null, .null, .null, .null, .null, .null, .null, .null, .null, .null, .int 0, .int 0, .int 0, .int 0, .int 0, .int 0, .int 0]] := ⟨_, rfl⟩
    rw [← x2]
    have l2 : h2.length = 96 := by rw [x2]; exact ap_len e2
    have n2 : h2[95]? = some (pm_Ob 4 [.null, .null, .null, .null, .null, .null, .null, .null, .null, .null, .null, .null, .null, .null, .int 0, .int 0, .int 0, .int 0, .int 0, .int 0, .int 0]) := by rw [x2]; exact ap_new e2
    have o2 : ∀ k, k < 95 → h2[k]? = h1[k]? := fun k hk => by rw [x2, ap_fr e2 hk]
    refine px (fun _ => pm_dup (pc := 11) d_Lw_law_11 rfl) ?_
    obtain ⟨⟨o9, h3⟩, ⟨y1, y2, y3, y4⟩, en2⟩ := i_Mo (l := l) (G := G) (h := h2) hl n2 l2
    dsimp only at y1 y2 y3 y4
    subst y1
    refine px (fun _ => k_Lw_law_12 (kc1 := 14) (ks1 := 562) (kc := 514) (ks := 3074) (av := []) (st := [.ref 95]) en2 rfl rfl (Nat.le_of_ble_eq_true rfl)) ?_
    refine px (fun _ => pm_astore_n (lv' := [(2, .ref 95), (1, .ref 0), (0, .retAddr 0)]) (pc := 15) d_Lw_law_15 (by decide) rfl) ?_
    refine px (fun _ => pm_iconst (v := 1) (pc := 16) d_Lw_law_16 rfl) ?_
    refine px (fun _ => pm_newa (kc := 513) (ks := 3073) (kd := 2) (N := 1) (a0 := (1, .inr (.inl fun _ => 0))) (pc := 17) d_Lw_law_17 (pm_t1 (i := 833) rfl rfl) (fun _ => rfl) (fun _ => rfl) (fun _ => rfl) rfl (by decide) (by decide)) ?_
    rw [y2]
    obtain ⟨h4, x4⟩ : ∃ h9, h9 = h3 ++ [pm_Lg 1 (fun _ => 0)] := ⟨_, rfl⟩
    rw [← x4]
    have l4 : h4.length = 111 := by rw [x4]; exact ap_len y2
    have n4 : h4[110]? = some (pm_Lg 1 (fun _ => 0)) := by rw [x4]; exact ap_new y2
    have o4 : ∀ k, k < 110 → h4[k]? = h3[k]? := fun k hk => by rw [x4, ap_fr y2 hk]
    refine px (fun _ => pm_astore_n (lv' := [(3, .ref 110), (2, .ref 95), (1, .ref 0), (0, .retAddr 0)]) (pc := 19) d_Lw_law_19 (by decide) rfl) ?_
    refine px (fun _ => pm_iconst (v := 1) (pc := 20) d_Lw_law_20 rfl) ?_
    refine px (fun _ => pm_newa (kc := 512) (ks := 3072) (kd := 1) (N := 1) (a0 := (1, .inr (.inr (.inr (.inl fun _ => 0))))) (pc := 21) d_Lw_law_21 (pm_t1 (i := 59) rfl rfl) (fun _ => rfl) (fun _ => rfl) (fun _ => rfl) rfl (by decide) (by decide)) ?_
    rw [l4]
    obtain ⟨h5, x5⟩ : ∃ h9, h9 = h4 ++ [pm_Dd 1 (fun _ => 0)] := ⟨_, rfl⟩
    rw [← x5]
    have n5 : h5[111]? = some (pm_Dd 1 (fun _ => 0)) := by rw [x5]; exact ap_new l4
    have o5 : ∀ k, k < 111 → h5[k]? = h4[k]? := fun k hk => by rw [x5, ap_fr l4 hk]
    refine px (fun _ => pm_astore (lv' := [(4, .ref 111), (3, .ref 110), (2, .ref 95), (1, .ref 0), (0, .retAddr 0)]) (pc := 23) d_Lw_law_23 (by decide) rfl) ?_
    refine px (fun _ => pm_iconst (v := 0) (pc := 25) d_Lw_law_25 rfl) ?_
    refine px (fun _ => pm_istore (lv' := [(5, .int 0), (4, .ref 111), (3, .ref 110), (2, .ref 95), (1, .ref 0), (0, .retAddr 0)]) (pc := 26) d_Lw_law_26 (by decide) rfl) ?_
    refine pxd [0, 5, 4, 3, 2, 1] rfl ?_
    have lr : lR gS0 mT0 h5 := by
      refine ⟨gH_old e3 (fun k hk => ?_), mH_fr y3 (fun k _ hk => ?_), gI_0, gR_0, ⟨fun _ => 0, ?_⟩, ⟨_, n5⟩⟩
      · rw [o5 k (by omega), o4 k (by omega), y4 k (by omega) (by omega), o2 k hk]
      · rw [o5 k (by omega), o4 k (by omega)]
      · rw [o5 110 (by omega)]; exact n4
    exact px (fun _ => pm_Ev.wk (fun q => absurd q (by decide)) id) (lp_law hl hL 512 0 gS0 mT0 h5 lr (by omega) (by omega))
  obtain ⟨r, p1, p2⟩ := hk
  exact ⟨r, p1, pa_callI (kc1 := 94) (ks1 := 710) (kc := 529) (ks := 3657) (av := []) (st := [.ref 0]) cb_Lw_law_Gr_init rfl rfl tw_20 tw_21 (pc := 4) d_Lw_law_4 en1 rfl rfl (Nat.le_of_ble_eq_true rfl) p2⟩
