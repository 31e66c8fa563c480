/-! ===== the law: node, prepare, run ===== -/
abbrev gnS (S : gS) (k j : Nat) (a b c p q : Int32) : gS := gsG (gsK (gsK (gsA (gsA (gsA (gsN (gsQ (gsQ (gsN (gsN S (gG S 0) 1 k) (gG S 0) 2 j) (gG S 0) 0 p) (gG S 0) 1 q) (gG S 0) 0 (g_ar k)) (gG S 0) (va_up (gA S (gG S 0)) 0 a)) (gG S 0) (va_up (gA (gsA S (gG S 0) (va_up (gA S (gG S 0)) 0 a)) (gG S 0)) 1 b)) (gG S 0) (va_up (gA (gsA (gsA S (gG S 0) (va_up (gA S (gG S 0)) 0 a)) (gG S 0) (va_up (gA (gsA S (gG S 0) (va_up (gA S (gG S 0)) 0 a)) (gG S 0)) 1 b)) (gG S 0)) 2 c)) j 0 3) j 1 (gG S 0)) 0 (gG S 0 + 1)
theorem gnS_K (S : gS) (k j : Nat) (a b c p q : Int32) (s i : Nat) : gK (gnS S k j a b c p q) s i = if s = j ∧ i = 0 then 3 else if s = j ∧ i = 1 then gG S 0 else gK S s i := by
  show g_up2 (g_up2 (gK S) j 0 3) j 1 (gG S 0) s i = _
  simp only [g_up2]
  by_cases h1 : s = j ∧ i = 0
  · rw [if_neg (by omega), if_pos h1, if_pos h1]
  · rw [if_neg h1, if_neg h1]
theorem gnS_N (S : gS) (k j : Nat) (a b c p q : Int32) (m i : Nat) : gN (gnS S k j a b c p q) m i = if m = gG S 0 ∧ i = 0 then g_ar k else if m = gG S 0 ∧ i = 2 then j else if m = gG S 0 ∧ i = 1 then k else gN S m i := rfl
theorem gnS_Q (S : gS) (k j : Nat) (a b c p q : Int32) (m i : Nat) : gQ (gnS S k j a b c p q) m i = if m = gG S 0 ∧ i = 1 then q else if m = gG S 0 ∧ i = 0 then p else gQ S m i := rfl
theorem gnS_A (S : gS) (k j : Nat) (a b c p q : Int32) (m i : Nat) : gA (gnS S k j a b c p q) m i = if m = gG S 0 then (if i = 2 then c else if i = 1 then b else if i = 0 then a else gA S m i) else gA S m i := by
  show va_up (va_up (va_up (gA S) (gG S 0) (va_up (gA S (gG S 0)) 0 a)) (gG S 0) (va_up (va_up (gA S) (gG S 0) (va_up (gA S (gG S 0)) 0 a) (gG S 0)) 1 b)) (gG S 0) (va_up (va_up (va_up (gA S) (gG S 0) (va_up (gA S (gG S 0)) 0 a)) (gG S 0) (va_up (va_up (gA S) (gG S 0) (va_up (gA S (gG S 0)) 0 a) (gG S 0)) 1 b) (gG S 0)) 2 c) m i = _
  by_cases e : m = gG S 0
  · subst e
    simp only [va_up, if_true]
  · simp only [va_up, if_neg e]
theorem L_node {l : Launch} {G : pm_G} {h : pm_H} {S : gS} {T : mS} {p0 p1 p2 p3 p4 p5 p6 : Int32} (hl : l.stackTraces = false) (lr : lR S T h) : LW l G M_Lw_node M_Mo_node [.ref 0, .int p0, .int p1, .int p2, .int p3, .int p4, .int p5, .int p6, .ref 110] [.ref 95, .int p0, .int p1, .int p2, .int p3, .int p4, .int p5, .int p6] h := by
  obtain ⟨HG, HM, hI, hR, ⟨g0, e110⟩, -⟩ := id lr
  have hb := HG.1
  have e0 := hR.1.1
  have b1 := hI.1.1
  by_cases ho : ¬ p0 < 0 ∧ ¬ 18 < p0
  · obtain ⟨k, rfl, -, hk⟩ := l_rng (a := 0) (b := 18) rfl rfl (by omega) (by omega) ho
    have hk19 : k < 19 := by omega
    have am := m_ar_g k hk19
    by_cases hs : p4 < 0 ∨ 20 ≤ p4
    · exact LW.thr (k := 1) lr (lw_node_x1 hl hb (c_node_b2 hl HG hI.1 hk19 hs)) (by omega) (m_node_b2 hl HM hk19 hs) (hR.G5 1) rfl
    · obtain ⟨j, hj, rfl⟩ := l_slot hs
      have kk := (hR.1.2.2.2.1 j hj).1
      have bj := hI.1.2.2.2.2.1 j hj
      by_cases hc : (gSl p1 ∧ (g_ar k < 2 ∧ p2 = -1 ∨ ¬ g_ar k < 2 ∧ gSl p2) ∧ (g_ar k < 3 ∧ p3 = -1 ∨ ¬ g_ar k < 3 ∧ gSl p3)) ∧ gK S j 0 = 0 ∧ (¬ p5 < -8 ∧ ¬ 8 < p5) ∧ (¬ p6 < -8 ∧ ¬ 8 < p6)
      · obtain ⟨ha, hf, hp, hq⟩ := hc
        have ha2 := ha
        rw [← am] at ha2
        by_cases hn : gG S 0 = 14
        · exact LW.thr (k := 2) lr (lw_node_x2 hl hb (c_node_full hl HG hI.1 hk19 hj ha hf hp hq hn)) (by omega) (m_node_full hl HM hk19 hj hp hq ha2.1 (kk.trans hf) ha2.2.1 ha2.2.2 (e0.trans hn)) (hR.G5 2) rfl
        · obtain ⟨⟨o7, h7⟩, ⟨e7, H7, F7⟩, en7⟩ := c_node_ok (l := l) (G := G) (fi := false) hl HG hI.1 hk19 hj ha hf hp hq (by omega)
          dsimp only at e7 H7 F7
          subst e7
          have H8 : gH (g_unp (gnS S k j p1 p2 p3 p5 p6)) h7 := H7
          have w1 : gW (gnS S k j p1 p2 p3 p5 p6) := gW.G (gW.K (gW.K (gW.A (gW.A (gW.A (gW.N (gW.Q (gW.Q (gW.N (gW.N hI.1 (by omega)) (by omega)))) (by have := g_ar_ok' k hk19; omega))))) (by omega)) (by omega)) (by omega)
          have eN : ∀ m, m ≠ gG S 0 → gN (gnS S k j p1 p2 p3 p5 p6) m = gN S m := fun m hm => by funext i; rw [gnS_N, if_neg (fun q => hm q.1), if_neg (fun q => hm q.1), if_neg (fun q => hm q.1)]
          have eQ : ∀ m, m ≠ gG S 0 → gQ (gnS S k j p1 p2 p3 p5 p6) m = gQ S m := fun m hm => by funext i; rw [gnS_Q, if_neg (fun q => hm q.1), if_neg (fun q => hm q.1)]
          have eA : ∀ m, m ≠ gG S 0 → gA (gnS S k j p1 p2 p3 p5 p6) m = gA S m := fun m hm => by funext i; rw [gnS_A, if_neg hm]
          have eNn : gN (gnS S k j p1 p2 p3 p5 p6) (gG S 0) 0 = g_ar k ∧ gN (gnS S k j p1 p2 p3 p5 p6) (gG S 0) 1 = k ∧ gN (gnS S k j p1 p2 p3 p5 p6) (gG S 0) 2 = j := by simp [gnS_N]
          have eQn : gQ (gnS S k j p1 p2 p3 p5 p6) (gG S 0) 0 = p5 ∧ gQ (gnS S k j p1 p2 p3 p5 p6) (gG S 0) 1 = p6 := by simp [gnS_Q]
          have eAn : gA (gnS S k j p1 p2 p3 p5 p6) (gG S 0) 0 = p1 ∧ gA (gnS S k j p1 p2 p3 p5 p6) (gG S 0) 1 = p2 ∧ gA (gnS S k j p1 p2 p3 p5 p6) (gG S 0) 2 = p3 := by simp [gnS_A]
          have i0 := gI_node (S' := gnS S k j p1 p2 p3 p5 p6) hI w1 hk19 hj ha hf hp hq rfl (gnS_K S k j p1 p2 p3 p5 p6) rfl rfl eN eNn eQ eQn eA eAn
          have i1 := gI_unp i0
          have tA : ∀ i s, mA (mnS T k j p1 p2 p3 p5 p6) i s = if i = 0 ∧ s = j then 3 else if i = 4 ∧ s = j then mG T 0 else if i = 6 ∧ s = mG T 0 then k else if i = 7 ∧ s = mG T 0 then j else mA T i s := by
            intro i s
            show g_up2 (g_up2 (g_up2 (g_up2 (mA T) 6 (mG T 0) k) 7 (mG T 0) j) 0 j 3) 4 j (mG T 0) i s = _
            simp only [g_up2]
            by_cases q0 : i = 0 ∧ s = j
            · rw [if_neg (by omega), if_pos q0, if_pos q0]
            · rw [if_neg q0, if_neg q0]
              by_cases q4 : i = 4 ∧ s = j
              · rw [if_pos q4, if_pos q4]
              · rw [if_neg q4, if_neg q4]
                by_cases q7 : i = 7 ∧ s = mG T 0
                · rw [if_pos q7, if_neg (by omega), if_pos q7]
                · rw [if_neg q7, if_neg q7]
          have tQ : ∀ i s, mQ (mnS T k j p1 p2 p3 p5 p6) i s = if i = 8 ∧ s = mG T 0 then p5 else if i = 9 ∧ s = mG T 0 then p6 else if i = 12 ∧ s = mG T 0 * 3 then p1 else if i = 12 ∧ s = mG T 0 * 3 + 1 then p2 else if i = 12 ∧ s = mG T 0 * 3 + 2 then p3 else mQ T i s := by
            intro i s
            show g_up2 (g_up2 (g_up2 (g_up2 (g_up2 (mQ T) 12 (mG T 0 * 3) p1) 12 (mG T 0 * 3 + 1) p2) 12 (mG T 0 * 3 + 2) p3) 8 (mG T 0) p5) 9 (mG T 0) p6 i s = _
            simp only [g_up2]
            by_cases q8 : i = 8 ∧ s = mG T 0
            · rw [if_neg (by omega), if_pos q8, if_pos q8]
            · rw [if_neg q8, if_neg q8]
              by_cases q9 : i = 9 ∧ s = mG T 0
              · rw [if_pos q9, if_pos q9]
              · rw [if_neg q9, if_neg q9]
                by_cases qa : i = 12 ∧ s = mG T 0 * 3
                · rw [if_neg (by omega), if_neg (by omega), if_pos qa, if_pos qa]
                · rw [if_neg qa, if_neg qa]
                  by_cases qb : i = 12 ∧ s = mG T 0 * 3 + 1
                  · rw [if_neg (by omega), if_pos qb, if_pos qb]
                  · rw [if_neg qb, if_neg qb]
          have r1 := gR_node (S' := gnS S k j p1 p2 p3 p5 p6) (T' := mnS T k j p1 p2 p3 p5 p6) hI hR hf rfl ⟨rfl, rfl⟩ (gnS_K S k j p1 p2 p3 p5 p6) rfl rfl eN eNn eQ eQn eA eAn rfl ⟨rfl, rfl⟩ tA rfl tQ
          have e7o : h7[110]? = some (pm_Lg 1 g0) := by rw [F7.2 110 (by omega)]; exact e110
          refine LW.mk (k := 0) lr ((lw_node_ok hl hb en7 e7o).more (by omega) (by omega)) (gH_far H8 _ (by omega)) (fun q a b => ?_) (g_ss e7o) i1 (by omega) (fun H => ?_)
          · rw [List.getElem?_set_ne (by omega)]; exact F7.2 q a
          · obtain ⟨r, ⟨a1, a2, a3⟩, k9⟩ := m_node_ok (l := l) (G := G) (fi := false) hl H hk19 hj hp hq ha2.1 (kk.trans hf) ha2.2.1 ha2.2.2 (by omega)
            exact ⟨r, ⟨_, _, a1, a2, a3, gR_unp r1 i1 (show gG S 0 + 1 ≤ 14 by omega), rfl, fun _ => by rw [e0]; rfl⟩, k9⟩
      · exact LW.thr (k := 1) lr (lw_node_x1 hl hb (c_node_b3 hl HG hI.1 hk19 hj hc)) (by omega) (m_node_b3 hl HM hk19 hj (by omega) (by rw [am, kk]; exact hc)) (hR.G5 1) rfl
  · exact LW.thr (k := 1) lr (lw_node_x1 hl hb (c_node_b1 hl HG hI.1 (Decidable.byContradiction fun q => ho ⟨fun r => q (Or.inl r), fun r => q (Or.inr r)⟩))) (by omega) (m_node_b1 hl HM ho) (hR.G5 1) rfl
theorem gOi.z {S : gS} : gOi (g_clrN S 3 0 (gG S 0)) 0 := by
  have e3 : ∀ n, n < gG S 0 → gN (g_clrN S 3 0 (gG S 0)) n 3 = 0 := fun n hn => by
    show (if (3 : Nat) = 3 ∧ 0 ≤ n ∧ n < gG S 0 then 0 else _) = 0
    rw [if_pos ⟨rfl, by omega, hn⟩]
  refine ⟨fun i hi => by omega, fun n hn q => ?_, ?_, fun i hi => by omega, fun i hi => by omega, fun i j hi => by omega⟩
  · rw [e3 n hn] at q; omega
  · exact g_cnt_0 _ _ (fun k _ hk => e3 k (show k < gG S 0 by have hk : k < 0 + gG S 0 := hk; omega))
theorem mqP.eqO {S S1 : gS} {T T' : mS} (q : g_eqO S S1) (h : mqP S T T') : mqP S1 T T' := by
  refine ⟨h.1, fun a b ha hb => h.2.1 a b ha (fun z => hb ⟨z.1, ?_⟩), h.2.2.1, h.2.2.2⟩
  obtain ⟨-, n, hn, e⟩ := z
  exact ⟨n, by rw [q.1]; exact hn, by rw [q.2.2.2.2.2.1 n 2 (by decide)]; exact e⟩
theorem L_prepare {l : Launch} {G : pm_G} {h : pm_H} {S : gS} {T : mS} (hl : l.stackTraces = false) (lr : lR S T h) : LW l G M_Lw_prepare M_Mo_prepare [.ref 0, .ref 110] [.ref 95] h := by
  obtain ⟨HG, HM, hI, hR, ⟨g0, e110⟩, -⟩ := id lr
  have hb := HG.1
  have b1 := hI.1.1
  have hrr := hI.1.2.1
  have e6 := hR.2.1
  by_cases hr : gG S 1 = 1
  · obtain ⟨⟨o7, h7⟩, ⟨e7, H7, F7⟩, en7⟩ := c_prep_r (l := l) (G := G) (fi := false) hl HG hI.1 hr
    dsimp only at e7 H7 F7
    subst e7
    have e7o : h7[110]? = some (pm_Lg 1 g0) := by rw [F7.2 110 (by omega)]; exact e110
    refine LW.mk (k := 0) lr ((lw_prepare_ok hl hb en7 e7o).more (by omega) (by omega)) (gH_far H7 _ (by omega)) (fun q a b => ?_) (g_ss e7o) hI (by omega) (fun H => ?_)
    · rw [List.getElem?_set_ne (by omega)]; exact F7.2 q a
    · obtain ⟨r, ⟨a1, a2, a3⟩, k9⟩ := m_prep_r (l := l) (G := G) (fi := false) hl H (e6.trans hr)
      exact ⟨r, ⟨_, _, a1, a2, a3, hR.G5 0, rfl, fun _ => by rw [hR.2.2.1]; rfl⟩, k9⟩
  · have hr0 : gG S 1 = 0 := by omega
    have hr6 : mG T 6 = 0 := e6.trans hr0
    have fl := hI.2.2.2.2.2.1 hr0
    have q1 : g_eqO S (g_o1 S).2 := (g_eqO.clr S 0 (gG S 0)).tr (g_ordL_eq _ _ _ _)
    have w1 : gW (g_o1 S).2 := g_ordL_W b1 _ _ _ (gW.clrN hI.1)
    have fl1 : ∀ n, n < gG (g_o1 S).2 0 → gN (g_o1 S).2 n 4 = 0 ∧ gN (g_o1 S).2 n 5 = 0 := fun n hn => by
      rw [q1.1] at hn
      rw [q1.2.2.2.2.2.1 n 4 (by decide), q1.2.2.2.2.2.1 n 5 (by decide)]
      exact fl n hn
    have i1 := hI.to1.eqO q1 w1
    have r1 := hR.to1.eqO q1
    have rr1 : gG (g_o1 S).2 1 = 0 := by rw [q1.1]; exact hr0
    have t1 : mG T 1 = 0 := by
      rw [hR.2.2.1]
      exact g_cnt_0 _ _ (fun k _ hk => (fl k (by omega)).1)
    have t10 : ∀ n, n < gG S 0 → mA T 10 n = 0 := fun n hn => by
      rw [hR.2.2.2.1 n hn]
      have := fl n hn
      unfold g_ss0
      rw [if_neg (by omega), if_neg (by omega)]
    have hV := hI.2.1
    have hU := hI.2.2.1
    have hJ := hI.2.2.2.1
    by_cases eo : (g_o1 S).1 = true
    · have hO1 : gOk (g_o1 S).2 := by
        have h9 := gOi.all (gG S 0) 0 (g_clrN S 3 0 (gG S 0)) ((g_eqO.clr S 0 (gG S 0)).V hV) ((g_eqO.clr S 0 (gG S 0)).J hJ) gOi.z eo
        rw [Nat.zero_add] at h9
        exact gOi.ok w1 (by rw [q1.1]; exact h9)
      have hX1 := hO1.X i1.2.1 i1.2.2.2.1
      cases es : g_shL (gG (g_o1 S).2 0) 0 (g_o1 S).2 with
      | none =>
        obtain ⟨⟨o7, h7⟩, ⟨e7, F7, t, H7, w7, v7⟩, en7⟩ := c_prep_s (l := l) (G := G) (fi := false) hl HG hI.1 hV hr0 eo w1 i1.2.1 i1.2.2.1 hX1 es
        dsimp only at e7 H7 F7
        subst e7
        have ht : ∀ s, s < 20 → ¬ gK (g_o1 S).2 s 0 = 3 → t s = gT (g_o1 S).2 s := fun s _ q => v7 s (fun i hi e => q (by rw [e]; exact (i1.2.2.2.1.2 _ (hX1 i hi).1).1))
        have i2 := gI_un (i1.TT w7 ht) rr1 fl1
        refine LW.mk (k := 2) lr (lw_prepare_x2 hl hb en7) H7 (fun q a _ => F7.2 q a) (by rw [F7.2 110 (by omega)]; exact e110) i2 (by omega) (fun H => ?_)
        obtain ⟨r, ⟨a1, T', a2, a3, a4, a5⟩, k9⟩ := m_prep_s (l := l) (G := G) (fi := false) hl H hI.1 hV hU hJ hR.1 hr6 eo hO1 w1 hR.to1.2 es
        exact ⟨r, ⟨_, T', a1, a2, a3, gR_thrown i2 rr1 (r1.TT ht) a5 hr6 t1 (fun n hn => t10 n (by rw [← q1.1]; exact hn)), a4, fun q => by omega⟩, k9⟩
      | some S2 =>
        obtain ⟨z1, z2, t, z3, z4⟩ := g_shL_ok _ 0 _ w1 i1.2.1 i1.2.2.1 i1.2.2.2.1 hO1 (fun i hi => by omega) (by omega) S2 es
        have i2 : gI1 S2 := by rw [z3] at z2 ⊢; exact i1.TT z2 z4
        have eg2 : gG S2 = gG (g_o1 S).2 := by rw [z3]; rfl
        have hO2 : gOk S2 := by rw [z3]; exact hO1
        have fl2 : ∀ n, n < gG S2 0 → gN S2 n 4 = 0 ∧ gN S2 n 5 = 0 := by rw [z3]; exact fl1
        have sh2 : gSh S2 := gShi.all hO2 (by rw [eg2]; exact z1)
        have ry2 := gI_ready i2.1 i2.2.1 i2.2.2.1 i2.2.2.2.1 hO2 sh2 fl2 i2.2.2.2.2
        have rr2 : gG S2 1 = 0 := by rw [eg2]; exact rr1
        have f0 := gFI.z ry2 i2.1 rr2 fl2
        obtain ⟨⟨o7, h7⟩, ⟨S3, f3, e7, H7, F7⟩, en7⟩ := c_prep_ok (l := l) (G := G) (fi := false) (nc := gG S2 0) (Inv := gFI S2 (gG S2 0)) hl HG hI.1 hV hr0 eo w1 i1.2.1 i1.2.2.1 hX1 es (fun pl S9 q => ⟨q.2.2.1, q.2.2.2.2.2.2⟩) (fun pl S9 hp q => q.hI hp) (fun pl S9 S8 hp q r => q.step hp r) f0
        dsimp only at e7 H7 F7
        subst e7
        have e7o : h7[110]? = some (pm_Lg 1 g0) := by rw [F7.2 110 (by omega)]; exact e110
        refine LW.mk (k := 0) lr ((lw_prepare_ok hl hb en7 e7o).more (by omega) (by omega)) (gH_far H7 _ (by omega)) (fun q a b => ?_) (g_ss e7o) f3.2.1 (by omega) (fun H => ?_)
        · rw [List.getElem?_set_ne (by omega)]; exact F7.2 q a
        · obtain ⟨r, ⟨T', a1, a2, a3, a4, a5⟩, k9⟩ := m_prep_ok (l := l) (G := G) (fi := false) (S3 := S3) hl H hI.1 hV hU hJ hR.1 hr6 eo hO1 w1 hR.to1.2 es f0 f3.1 t1 t10
          refine ⟨r, ⟨_, T', a1, a2, a3, a5, a4, fun _ => ?_⟩, k9⟩
          have c9 : mG T' 1 = g_cnt (fun n => gN S3 n 4) 0 (gG S3 0) := a5.2.2.1
          rw [f3.2.2.1] at c9
          rw [c9]; rfl
    · obtain ⟨⟨o7, h7⟩, ⟨e7, H7, F7⟩, en7⟩ := c_prep_o (l := l) (G := G) (fi := false) hl HG hI.1 hV hr0 eo
      dsimp only at e7 H7 F7
      subst e7
      have i2 := gI_un i1 rr1 fl1
      refine LW.mk (k := 1) lr (lw_prepare_x1 hl hb en7) H7 (fun q a _ => F7.2 q a) (by rw [F7.2 110 (by omega)]; exact e110) i2 (by omega) (fun H => ?_)
      obtain ⟨r, ⟨a1, T', a2, a3, a4, a5⟩, k9⟩ := m_prep_o (l := l) (G := G) (fi := false) hl H hI.1 hV hU hJ hR.1 hr6 eo
      exact ⟨r, ⟨_, T', a1, a2, a3, gR_thrown i2 rr1 r1 (a5.eqO q1) hr6 t1 (fun n hn => t10 n (by rw [← q1.1]; exact hn)), a4, fun q => by omega⟩, k9⟩
theorem L_run {l : Launch} {G : pm_G} {h : pm_H} {S : gS} {T : mS} {p0 : Int32} (hl : l.stackTraces = false) (lr : lR S T h) : LW l G M_Lw_run M_Mo_run [.ref 0, .int p0, .ref 110] [.ref 95, .int p0] h := by
  obtain ⟨HG, HM, hI, hR, ⟨g0, e110⟩, -⟩ := id lr
  have hb := HG.1
  have hrr := hI.1.2.1
  have e6 := hR.2.1
  by_cases hs0 : p0 < 0 ∨ 20 ≤ p0
  · exact LW.thr (k := 1) lr (lw_run_x1 hl hb (c_run_b1 hl HG hI.1 hs0)) (by omega) (m_run_b1 hl HM hs0) (hR.G5 1) rfl
  · obtain ⟨s, hs, rfl⟩ := l_slot hs0
    have kk := (hR.1.2.2.2.1 s hs).1
    have bs := hI.1.2.2.2.2.1 s hs
    by_cases hk : gK S s 0 = 0
    · exact LW.thr (k := 1) lr (lw_run_x1 hl hb (c_run_b2 hl HG hI.1 hs hk)) (by omega) (m_run_b2 hl HM hs (kk.trans hk)) (hR.G5 1) rfl
    · have hk9 : ¬ nI (mA T 0 s) = 0 := by rw [kk]; exact nI_ne0 (by omega) (by omega)
      by_cases hr : gG S 1 = 1
      · obtain ⟨⟨o7, h7⟩, ⟨F7, p7⟩, en7⟩ := c_run_x (l := l) (G := G) (fi := false) hl HG hI hs hk hr
        dsimp only at F7 p7
        have e7o : h7[110]? = some (pm_Lg 1 g0) := by rw [F7.2 110 (by omega)]; exact e110
        rcases p7 with ⟨k, m, S7, e7, rn, th, H7⟩ | ⟨e, S7, e7, bd, H7⟩
        · subst e7
          refine LW.mk (k := 0) lr (lw_run_ok hl hb en7 e7o) (gH_far H7 _ (by omega)) (fun q a b => ?_) (g_ss e7o) rn.2.1 (by omega) (fun H => ?_)
          · rw [List.getElem?_set_ne (by omega)]; exact F7.2 q a
          · obtain ⟨r, ⟨T', c, a1, a2, a3, a4, a5, a6⟩, k9⟩ := m_run_ok (l := l) (G := G) (fi := false) hl H hs hk9 hk (e6.trans hr) rn th hR
            exact ⟨r, ⟨_, T', a1, a3, a4, a5, a6, fun _ => by rw [a2, nI_subA]; rfl⟩, k9⟩
        · have key : ∀ kx : Nat, kx = m_er e → 1 ≤ kx → kx ≤ 4 → pm_En l G false false 1 6 M_Lw_run [.ref 0, .int (nI s), .ref 110] h (.inl (some (.int (nI kx))), h7) → LW l G M_Lw_run M_Mo_run [.ref 0, .int (nI s), .ref 110] [.ref 95, .int (nI s)] h := by
            intro kx ek k1 k4 en9
            have hI7 : gI S7 := by
              obtain ⟨k1, m1, S1, f1, rn1, hm1, e1, ge1, e0, rfl⟩ := id bd
              exact gI_learnE rn1.2.1 (rn1.2.2.2.2.2.1.2.2 (m1 - 1) (by omega)).1 (rn1.2.2.2.2.2.1.2.2 (m1 - 1) (by omega)).2 e0
            refine LW.mk (k := kx) lr en9 H7 (fun q a _ => F7.2 q a) e7o hI7 k4 (fun H => ?_)
            obtain ⟨r, ⟨T', a1, a2, a3, a4, a5, -⟩, k9⟩ := m_run_e (l := l) (G := G) (fi := false) hl H hs hk9 hk (e6.trans hr) bd hR
            exact ⟨r, ⟨_, T', a1, a2, a3, a4, a5.trans ek.symm, fun q => by omega⟩, k9⟩
          rcases e7 with ⟨rfl, rfl⟩ | ⟨rfl, rfl⟩
          · exact key 3 rfl (by omega) (by omega) (lw_run_x3 hl hb en7)
          · exact key 4 rfl (by omega) (by omega) (lw_run_x4 hl hb en7)
      · have hr0 : gG S 1 = 0 := by omega
        exact LW.thr (k := 2) lr (lw_run_x2 hl hb (c_run_b3 hl HG hI.1 hs hk hr0)) (by omega) (m_run_b3 hl HM hs hk9 (e6.trans hr0)) (hR.G5 2) rfl
