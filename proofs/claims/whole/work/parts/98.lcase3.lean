/-! ===== the law: get, slot, count ===== -/
/-- a call of both that answers a double -/
abbrev LD (l : Launch) (G : pm_G) (ML MM : pm_M) (aL aM : List Value) (h : pm_H) : Prop := ∃ (k : Nat) (b : UInt64) (h1 h2 : pm_H) (S' : gS) (T' : mS) (fs : List Value) (g : Nat → UInt64), pm_En l G false false 1 6 ML aL h (.inl (some (.int (nI k))), h1) ∧ h1[95]? = some (pm_Ob 4 fs) ∧ pm_En l G false false 0 0 MM aM h1 (.inl (some (.double b)), h2) ∧ lR S' T' h2 ∧ mG T' 5 = k ∧ k ≤ 4 ∧ h2[111]? = some (pm_Dd 1 g) ∧ (k = 0 → g 0 = b ∧ gB b)
theorem LD.mk {l : Launch} {G : pm_G} {ML MM : pm_M} {aL aM : List Value} {h h1 : pm_H} {S S' : gS} {T : mS} {k : Nat} {g : Nat → UInt64} (lr : lR S T h) (en : pm_En l G false false 1 6 ML aL h (.inl (some (.int (nI k))), h1)) (H1 : gH S' h1) (F1 : ∀ q, 95 ≤ q → q ≠ 111 → h1[q]? = h[q]?) (hg : h1[111]? = some (pm_Dd 1 g)) (hI : gI S') (k4 : k ≤ 4) (md : mH T h1 → pm_Cn l G false false 0 0 MM aM h1 (fun r => ∃ b T', r.1 = .inl (some (.double b)) ∧ mH T' r.2 ∧ mFr h1 r.2 ∧ gR S' T' ∧ mG T' 5 = k ∧ (k = 0 → g 0 = b ∧ gB b))) : LD l G ML MM aL aM h := by
  obtain ⟨-, HM, -, -, ⟨g1, e1⟩, -⟩ := lr
  have HM1 := mH_fr HM (fun q a b => F1 q a (by omega))
  obtain ⟨⟨o9, h2⟩, ⟨b, T', e9, H2, F2, hR, t5, hb⟩, en2⟩ := md HM1
  dsimp only at e9 H2 F2
  subst e9
  have e2 : h2[111]? = some (pm_Dd 1 g) := by rw [F2.2 111 (Or.inr (by omega))]; exact hg
  refine ⟨k, b, h1, h2, S', T', _, g, en, HM1.1, en2, ⟨gH_fr H1 F2, H2, hI, hR, ⟨g1, ?_⟩, ⟨g, e2⟩⟩, t5, k4, e2, hb⟩
  rw [F2.2 110 (Or.inr (by omega)), F1 110 (by omega) (by omega)]; exact e1
theorem LD.thr {l : Launch} {G : pm_G} {ML MM : pm_M} {aL aM : List Value} {h : pm_H} {S : gS} {T T' : mS} {k : Nat} {b : UInt64} (lr : lR S T h) (en : pm_En l G false false 1 6 ML aL h (.inl (some (.int (nI k))), h)) (k1 : 1 ≤ k ∧ k ≤ 4) (md : pm_Cn l G false false 0 0 MM aM h (m_P (some (.double b)) T' h)) (hR : gR S T') (t5 : mG T' 5 = k) : LD l G ML MM aL aM h := by
  obtain ⟨HG, HM, hI, -, -, ⟨g0, e0⟩⟩ := id lr
  refine LD.mk lr en HG (fun _ _ _ => rfl) e0 hI k1.2 (fun _ => ?_)
  obtain ⟨r, ⟨a1, a2, a3⟩, k9⟩ := md
  exact ⟨r, ⟨b, T', a1, a2, a3, hR, t5, fun q => by omega⟩, k9⟩
theorem L_get {l : Launch} {G : pm_G} {h : pm_H} {S : gS} {T : mS} {p0 p1 p2 : Int32} (hl : l.stackTraces = false) (lr : lR S T h) : LD l G M_Lw_get M_Mo_get [.ref 0, .int p0, .int p1, .int p2, .ref 111] [.ref 95, .int p0, .int p1, .int p2] h := by
  obtain ⟨HG, HM, hI, hR, -, ⟨g0, e111⟩⟩ := id lr
  have hb := HG.1
  have b1 := hI.1.1
  by_cases hs : p0 < 0 ∨ 20 ≤ p0
  · exact LD.thr (k := 1) lr (lw_get_x1 hl hb (c_get_b1 hl HG hI.1 hs)) (by omega) (m_get_b1 hl HM hs) (hR.G5 1) rfl
  · obtain ⟨j, hj, rfl⟩ := l_slot hs
    have kk := hR.1.2.2.2.1 j hj
    have bj := hI.1.2.2.2.2.1 j hj
    have mk3 : gK S j 0 = 3 → mA T 4 j < 14 ∧ mA T 10 (mA T 4 j) = g_ss0 S (gK S j 1) := fun q => by
      have hj9 := (hI.2.2.2.1.1 j hj q).1
      rw [kk.2 q]
      exact ⟨by omega, hR.2.2.2.1 _ hj9⟩
    by_cases th : g_thP S j
    · have tb : mTb S T j := by
        rcases th with q | ⟨q1, q2⟩
        · exact hR.2.2.2.2.1 j hj (Or.inl q)
        · refine hR.2.2.2.2.1 j hj (Or.inr ⟨q1, ?_⟩)
          have hj9 := (hI.2.2.2.1.1 j hj q1).1
          have r01 := hI.1.2.1
          refine Decidable.byContradiction fun r => ?_
          have := hI.2.2.2.2.2.1 (by omega) _ hj9
          omega
      obtain ⟨t1, t2, t3⟩ := tb
      have md : ∀ h1, mH T h1 → ∀ x y, x < gT S j 1 → y < gT S j 2 → pm_Cn l G false false 0 0 M_Mo_get [.ref 95, .int (nI j), .int (nI x), .int (nI y)] h1 (m_P (some (.double (mV T (j * 16 + x * 4 + y)))) (msG T 5 0) h1) := by
        intro h1 H x y hx hy
        rcases th with (q | q) | ⟨q1, q2⟩
        · exact m_get_ok1 hl H hj (kk.1.trans q) (by omega) (by omega) (by omega) (by omega)
        · exact m_get_ok2 hl H hj (kk.1.trans q) (by omega) (by omega) (by omega) (by omega)
        · obtain ⟨z1, z2⟩ := mk3 q1
          exact m_get_ok3 hl H hj (kk.1.trans q1) z1 (by rw [z2]; rcases g_ss0_ho q2 with q | q <;> (rw [q]; decide)) (by omega) (by omega) (by omega) (by omega)
      by_cases hc : ¬ p1 < 0 ∧ ¬ nI (gT S j 1) ≤ p1 ∧ ¬ p2 < 0 ∧ ¬ nI (gT S j 2) ≤ p2
      · obtain ⟨i1, i2, i3, i4⟩ := hc
        obtain ⟨x, hx9, rfl⟩ := nI_of i1
        obtain ⟨y, hy9, rfl⟩ := nI_of i3
        have hx : x < gT S j 1 := Decidable.byContradiction fun q => i2 ((nI_leI (by omega) hx9).mpr (by omega))
        have hy : y < gT S j 2 := Decidable.byContradiction fun q => i4 ((nI_leI (by omega) hy9).mpr (by omega))
        have en7 := c_get_ok (l := l) (G := G) (fi := false) hl HG hI.1 hj th hx hy
        have cl := hR.2.2.2.2.2.2 j hj th x y hx hy
        have gd := (hI.2.2.2.2.2.2.2 j hj th x y hx hy).B
        refine LD.mk (k := 0) lr ((lw_get_ok hl hb en7 e111).more (by omega) (by omega)) (gH_far HG _ (by omega)) (fun q a b => ?_) (g_ss e111) hI (by omega) (fun H => ?_)
        · rw [List.getElem?_set_ne (by omega)]
        · obtain ⟨r, ⟨a1, a2, a3⟩, k9⟩ := md _ H x y hx hy
          exact ⟨r, ⟨_, _, a1, a2, a3, hR.G5 0, rfl, fun _ => ⟨by rw [cl]; rfl, by rw [cl]; exact gd⟩⟩, k9⟩
      · have e9 := c_get_m (l := l) (G := G) (fi := false) (i9 := p1) (j9 := p2) hl HG hI.1 hj (fun q => hc q.2)
        have hc2 : ¬ (¬ p1 < 0 ∧ ¬ nI (mA T 2 j) ≤ p1 ∧ ¬ p2 < 0 ∧ ¬ nI (mA T 3 j) ≤ p2) := by rw [t2, t3]; exact hc
        refine LD.thr (k := 2) (b := FP.dconst0) (T' := msG (msG T 5 0) 5 2) lr (lw_get_x2 hl hb e9) (by omega) ?_ ((hR.G5 0).G5 2) rfl
        rcases th with (q | q) | ⟨q1, q2⟩
        · exact m_get_m1 hl HM hj (kk.1.trans q) hc2
        · exact m_get_m2 hl HM hj (kk.1.trans q) hc2
        · obtain ⟨z1, z2⟩ := mk3 q1
          exact m_get_m3 hl HM hj (kk.1.trans q1) z1 (by rw [z2]; rcases g_ss0_ho q2 with q | q <;> (rw [q]; decide)) hc2
    · have e9 := c_get_m (l := l) (G := G) (fi := false) (i9 := p1) (j9 := p2) hl HG hI.1 hj (fun q => th q.1)
      refine LD.thr (k := 2) (b := FP.dconst0) (T' := msG (msG T 5 0) 5 2) lr (lw_get_x2 hl hb e9) (by omega) ?_ ((hR.G5 0).G5 2) rfl
      by_cases q0 : gK S j 0 = 0
      · exact m_get_n0 hl HM hj (kk.1.trans q0)
      · have q3 : gK S j 0 = 3 := by
          by_cases q : gK S j 0 = 1 ∨ gK S j 0 = 2
          · exact absurd (Or.inl q) th
          · omega
        obtain ⟨z1, z2⟩ := mk3 q3
        exact m_get_n3 hl HM hj (kk.1.trans q3) z1 (by rw [z2, g_ss0_no (fun q => th (Or.inr ⟨q3, q⟩))]; rfl)
theorem L_slot {l : Launch} {G : pm_G} {h : pm_H} {S : gS} {T : mS} {p0 p1 : Int32} (hl : l.stackTraces = false) (lr : lR S T h) : LW l G M_Lw_slot M_Mo_slot [.ref 0, .int p0, .int p1, .ref 110] [.ref 95, .int p0, .int p1] h := by
  obtain ⟨HG, HM, hI, hR, ⟨g0, e110⟩, -⟩ := id lr
  have hb := HG.1
  have r01 := hI.1.2.1
  have e6 := hR.2.1
  by_cases hs : p0 < 0 ∨ 20 ≤ p0
  · exact LW.thr (k := 1) lr (lw_slot_x1 hl hb (c_slot_b1 hl HG hI.1 hs)) (by omega) (m_slot_b1 hl HM hs) (hR.G5 1) rfl
  · obtain ⟨j, hj, rfl⟩ := l_slot hs
    have kk := (hR.1.2.2.2.1 j hj).1
    have bj := hI.1.2.2.2.2.1 j hj
    by_cases hw : p1 < 0 ∨ ¬ p1 ≤ 3
    · exact LW.thr (k := 1) lr (lw_slot_x1 hl hb (c_slot_b2 hl HG hI.1 hj hw)) (by omega) (m_slot_b2 hl HM hj hw) (hR.G5 1) rfl
    · obtain ⟨w, rfl, -, hw3⟩ := l_rng (p := p1) (a := 0) (b := 3) rfl rfl (by omega) (by omega) ⟨fun q => hw (Or.inl q), fun q => hw (Or.inr (Int32.not_le.mpr q))⟩
      have ok : ∀ v : Int32, pm_En l G false false 0 0 M_Gr_slot [.ref 0, .int (nI j), .int (nI w)] h (.inl (some (.int v)), h) → (∀ h1, mH T h1 → pm_Cn l G false false 0 0 M_Mo_slot [.ref 95, .int (nI j), .int (nI w)] h1 (m_P (some (.int v)) (msG T 5 0) h1)) → LW l G M_Lw_slot M_Mo_slot [.ref 0, .int (nI j), .int (nI w), .ref 110] [.ref 95, .int (nI j), .int (nI w)] h := by
        intro v en7 md
        refine LW.mk (k := 0) lr ((lw_slot_ok hl hb en7 e110).more (by omega) (by omega)) (gH_far HG _ (by omega)) (fun q a b => ?_) (g_ss e110) hI (by omega) (fun H => ?_)
        · rw [List.getElem?_set_ne (by omega)]
        · obtain ⟨r, ⟨a1, a2, a3⟩, k9⟩ := md _ H
          exact ⟨r, ⟨_, _, a1, a2, a3, hR.G5 0, rfl, fun _ => rfl⟩, k9⟩
      have w4 : w = 0 ∨ w = 1 ∨ w = 2 ∨ w = 3 := by omega
      by_cases hc : (gK S j 0 = 1 ∨ gK S j 0 = 2) ∨ gK S j 0 = 3 ∧ gG S 1 = 1
      · obtain ⟨t1, t2, t3⟩ := hR.2.2.2.2.1 j hj hc
        rcases w4 with rfl | rfl | rfl | rfl
        · refine ok _ (c_slot_0 hl HG hI.1 hj) (fun h1 H => ?_)
          rw [← kk]; exact m_slot_0 hl H hj
        · refine ok _ (c_slot_1 hl HG hI.1 hj hc) (fun h1 H => ?_)
          rw [← t1]
          rcases hc with (q | q) | ⟨q, q2⟩
          · exact m_slot_1_1 hl H hj (kk.trans q)
          · exact m_slot_1_2 hl H hj (kk.trans q)
          · exact m_slot_1_3 hl H hj (kk.trans q) (e6.trans q2)
        · refine ok _ (c_slot_2 hl HG hI.1 hj hc) (fun h1 H => ?_)
          rw [← t2]
          rcases hc with (q | q) | ⟨q, q2⟩
          · exact m_slot_2_1 hl H hj (kk.trans q)
          · exact m_slot_2_2 hl H hj (kk.trans q)
          · exact m_slot_2_3 hl H hj (kk.trans q) (e6.trans q2)
        · refine ok _ (c_slot_3 hl HG hI.1 hj hc) (fun h1 H => ?_)
          rw [← t3]
          rcases hc with (q | q) | ⟨q, q2⟩
          · exact m_slot_3_1 hl H hj (kk.trans q)
          · exact m_slot_3_2 hl H hj (kk.trans q)
          · exact m_slot_3_3 hl H hj (kk.trans q) (e6.trans q2)
      · have c2 : gK S j 0 = 0 ∨ gK S j 0 = 3 ∧ gG S 1 = 0 := by omega
        rcases w4 with rfl | rfl | rfl | rfl
        · refine ok _ (c_slot_0 hl HG hI.1 hj) (fun h1 H => ?_)
          rw [← kk]; exact m_slot_0 hl H hj
        · refine LW.thr (k := 2) (b := 0) (T' := msG T 5 2) lr (lw_slot_x2 hl hb (c_slot_m1 hl HG hI.1 hj hc)) (by omega) ?_ (hR.G5 2) rfl
          rcases c2 with q | ⟨q, q2⟩
          · exact m_slot_m1_0 hl HM hj (kk.trans q)
          · exact m_slot_m1_3 hl HM hj (kk.trans q) (e6.trans q2)
        · refine LW.thr (k := 2) (b := 0) (T' := msG T 5 2) lr (lw_slot_x2 hl hb (c_slot_m2 hl HG hI.1 hj hc)) (by omega) ?_ (hR.G5 2) rfl
          rcases c2 with q | ⟨q, q2⟩
          · exact m_slot_m2_0 hl HM hj (kk.trans q)
          · exact m_slot_m2_3 hl HM hj (kk.trans q) (e6.trans q2)
        · refine LW.thr (k := 2) (b := 0) (T' := msG T 5 2) lr (lw_slot_x2 hl hb (c_slot_m3 hl HG hI.1 hj hc)) (by omega) ?_ (hR.G5 2) rfl
          rcases c2 with q | ⟨q, q2⟩
          · exact m_slot_m3_0 hl HM hj (kk.trans q)
          · exact m_slot_m3_3 hl HM hj (kk.trans q) (e6.trans q2)
/-- count: both answer the same -/
abbrev LC (l : Launch) (G : pm_G) (p0 : Int32) (h : pm_H) : Prop := ∃ v h2 S' T' fs, pm_En l G false false 0 0 M_Gr_count [.ref 0, .int p0] h (.inl (some (.int v)), h) ∧ h[95]? = some (pm_Ob 4 fs) ∧ pm_En l G false false 0 0 M_Mo_count [.ref 95, .int p0] h (.inl (some (.int v)), h2) ∧ lR S' T' h2
theorem L_count {l : Launch} {G : pm_G} {h : pm_H} {S : gS} {T : mS} {p0 : Int32} (hl : l.stackTraces = false) (lr : lR S T h) : LC l G p0 h := by
  obtain ⟨HG, HM, hI, hR, ⟨g0, e110⟩, ⟨g1, e111⟩⟩ := id lr
  have b1 := hI.1.1
  have r01 := hI.1.2.1
  have e0 := hR.1.1
  have e6 := hR.2.1
  have hn : mG T 0 ≤ 14 := by omega
  have mk : ∀ v : Int32, pm_En l G false false 0 0 M_Gr_count [.ref 0, .int p0] h (.inl (some (.int v)), h) → pm_Cn l G false false 0 0 M_Mo_count [.ref 95, .int p0] h (m_P (some (.int v)) (msG T 5 0) h) → LC l G p0 h := by
    intro v en md
    obtain ⟨⟨o9, h2⟩, ⟨e9, H2, F2⟩, en2⟩ := md
    dsimp only at e9 H2 F2
    subst e9
    refine ⟨v, h2, S, msG T 5 0, _, en, HM.1, en2, gH_fr HG F2, H2, hI, hR.G5 0, ⟨g0, ?_⟩, ⟨g1, ?_⟩⟩
    · rw [F2.2 110 (Or.inr (by omega))]; exact e110
    · rw [F2.2 111 (Or.inr (by omega))]; exact e111
  have k2 : g_cnt (m_k2 T) 0 (mG T 0) = g_cnt (fun n => gN S n 5) 0 (gG S 0) := by
    rw [e0]
    refine g_cnt_congr _ _ (fun n _ hn9 => ?_)
    have hn9 : n < gG S 0 := by omega
    have bn := hI.1.2.2.2.2.2 n (by omega)
    have h4 := hI.2.2.2.2.1 n hn9
    unfold m_k2
    rw [hR.2.2.2.1 n hn9]
    unfold g_ss0
    by_cases q4 : gN S n 4 = 1
    · rw [if_pos q4, if_neg (by decide)]
      exact ⟨fun _ => h4 q4, fun _ => rfl⟩
    · rw [if_neg q4]
      by_cases q5 : gN S n 5 = 1
      · rw [if_pos q5, if_pos (by decide)]
        exact ⟨fun q => by omega, fun q => by omega⟩
      · rw [if_neg q5, if_neg (by decide)]
        exact ⟨fun q => by omega, fun q => rfl⟩
  by_cases h5 : p0.toInt < 0 ∨ 5 < p0.toInt
  · by_cases hc : gG S 1 = 1 ∧ ¬ p0 < 10 ∧ p0 < nI (10 + gG S 0)
    · obtain ⟨r1, r2, r3⟩ := hc
      obtain ⟨q, hq, rfl⟩ := nI_of (x := p0) (fun q => r2 (Int32.lt_trans q (by decide)))
      have q10 : 10 ≤ q := Decidable.byContradiction fun r => r2 ((nI_ltI (a := q) (b := 10) hq (by omega)).mpr (by omega))
      have qn : q < 10 + gG S 0 := (nI_ltI (a := q) (b := 10 + gG S 0) hq (by omega)).mp r3
      obtain ⟨k, rfl⟩ : ∃ k, q = 10 + k := ⟨q - 10, by omega⟩
      have oo := hR.2.2.2.2.2.1 r1 k (by omega)
      refine mk _ (c_count_o hl HG hI.1 r1 (by omega)) ?_
      rw [← oo]
      exact m_count_o hl HM hn (e6.trans r1) (by omega)
    · exact mk _ (c_count_n hl HG hI.1 h5 hc) (m_count_n hl HM hn (by omega) h5 (by rw [e6, e0]; exact hc))
  · obtain ⟨q, hq, rfl⟩ := nI_of (x := p0) (fun q => h5 (Or.inl (Int32.lt_iff_toInt_lt.mp q)))
    rw [nI_toInt hq] at h5
    have q6 : q = 0 ∨ q = 1 ∨ q = 2 ∨ q = 3 ∨ q = 4 ∨ q = 5 := by omega
    rcases q6 with rfl | rfl | rfl | rfl | rfl | rfl
    · refine mk _ (c_count_0 hl HG hI.1) ?_
      rw [← e0]; exact m_count_0 hl HM hn
    · refine mk _ (c_count_1 hl HG hI.1) ?_
      rw [← e6]; exact m_count_1 hl HM hn (by omega)
    · refine mk _ (c_count_2 hl HG hI.1) ?_
      rw [← hR.2.2.1]; exact m_count_2 hl HM hn
    · refine mk _ (c_count_3 hl HG hI.1) ?_
      rw [← k2]; exact m_count_3 hl HM hn
    · refine mk _ (c_count_4 hl HG hI.1) ?_
      rw [← hR.1.2.1]; exact m_count_4 hl HM hn
    · refine mk _ (c_count_5 hl HG hI.1) ?_
      rw [← hR.1.2.2.1]; exact m_count_5 hl HM hn
