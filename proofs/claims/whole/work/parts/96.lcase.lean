/-! ===== the law: what stands between two calls ===== -/
def lR (S : gS) (T : mS) (h : pm_H) : Prop := gH S h ∧ mH T h ∧ gI S ∧ gR S T ∧ (∃ g, h[110]? = some (pm_Lg 1 g)) ∧ (∃ g, h[111]? = some (pm_Dd 1 g))
theorem gH_fr {S : gS} {h h2 : pm_H} (H : gH S h) (F : mFr h h2) : gH S h2 := by
  obtain ⟨h0, ⟨f1, h1, g1⟩, ⟨f2, h2', g2⟩, h3, h4, ⟨t5, r5, c5, h5⟩, hs, hn⟩ := H
  have e : ∀ k, k < 95 → h2[k]? = h[k]? := fun k hk => F.2 k (Or.inl hk)
  refine ⟨by rw [e 0 (by omega)]; exact h0, ⟨f1, by rw [e 1 (by omega)]; exact h1, g1⟩, ⟨f2, by rw [e 2 (by omega)]; exact h2', g2⟩, by rw [e 3 (by omega)]; exact h3, by rw [e 4 (by omega)]; exact h4, ⟨t5, r5, c5, by rw [e 5 (by omega)]; exact h5⟩, fun s hs9 => ?_, fun n hn9 => ?_⟩
  · rw [e _ (by omega), e _ (by omega), e _ (by omega)]; exact hs s hs9
  · rw [e _ (by omega), e _ (by omega)]; exact hn n hn9
theorem mH_fr {T : mS} {h h1 : pm_H} (H : mH T h) (F : ∀ k, 95 ≤ k → k < 110 → h1[k]? = h[k]?) : mH T h1 := by
  obtain ⟨q0, q1, q2, q3, q4, q5, q6, q7, q8, q9, q10, q11, q12, q13, q14⟩ := H
  exact ⟨by rw [F 95 (by omega) (by omega)]; exact q0, by rw [F 96 (by omega) (by omega)]; exact q1, by rw [F 97 (by omega) (by omega)]; exact q2, by rw [F 98 (by omega) (by omega)]; exact q3, by rw [F 99 (by omega) (by omega)]; exact q4, by rw [F 100 (by omega) (by omega)]; exact q5, by rw [F 101 (by omega) (by omega)]; exact q6, by rw [F 102 (by omega) (by omega)]; exact q7, by rw [F 103 (by omega) (by omega)]; exact q8, by rw [F 104 (by omega) (by omega)]; exact q9, by rw [F 105 (by omega) (by omega)]; exact q10, by rw [F 106 (by omega) (by omega)]; exact q11, by rw [F 107 (by omega) (by omega)]; exact q12, by rw [F 108 (by omega) (by omega)]; exact q13, by rw [F 109 (by omega) (by omega)]; exact q14⟩
theorem gH_far {S : gS} {h : pm_H} (H : gH S h) {a : Nat} (c : va_E) (ha : 95 ≤ a) : gH S (h.set a c) := by
  obtain ⟨h0, ⟨f1, h1, g1⟩, ⟨f2, h2', g2⟩, h3, h4, ⟨t5, r5, c5, h5⟩, hs, hn⟩ := H
  exact ⟨g_sn h0 (by omega), ⟨f1, g_sn h1 (by omega), g1⟩, ⟨f2, g_sn h2' (by omega), g2⟩, g_sn h3 (by omega), g_sn h4 (by omega), ⟨t5, r5, c5, g_sn h5 (by omega)⟩, fun x hx => ⟨g_sn (hs x hx).1 (by omega), g_sn (hs x hx).2.1 (by omega), g_sn (hs x hx).2.2 (by omega)⟩, fun x hx => ⟨g_sn (hn x hx).1 (by omega), g_sn (hn x hx).2 (by omega)⟩⟩
/-- a call of both that answers nothing -/
abbrev LV (l : Launch) (G : pm_G) (ML MM : pm_M) (aL aM : List Value) (h : pm_H) : Prop := ∃ k h1 h2 S' T' fs, pm_En l G false false 1 6 ML aL h (.inl (some (.int (nI k))), h1) ∧ h1[95]? = some (pm_Ob 4 fs) ∧ pm_En l G false false 0 0 MM aM h1 (.inl none, h2) ∧ lR S' T' h2 ∧ mG T' 5 = k
theorem LV.mk {l : Launch} {G : pm_G} {ML MM : pm_M} {aL aM : List Value} {h h1 : pm_H} {S S' : gS} {T T' : mS} {k : Nat} (lr : lR S T h) (en : pm_En l G false false 1 6 ML aL h (.inl (some (.int (nI k))), h1)) (H1 : gH S' h1) (F1 : gFr h h1) (hI : gI S') (md : mH T h1 → pm_Cn l G false false 0 0 MM aM h1 (m_P none T' h1)) (hR : gR S' T') (t5 : mG T' 5 = k) : LV l G ML MM aL aM h := by
  obtain ⟨-, HM, -, -, ⟨g0, e0⟩, ⟨g1, e1⟩⟩ := lr
  have HM1 := mH_fr HM (fun q a _ => F1.2 q a)
  obtain ⟨⟨o9, h2⟩, ⟨e9, H2, F2⟩, en2⟩ := md HM1
  dsimp only at e9 H2 F2
  subst e9
  refine ⟨k, h1, h2, S', T', _, en, HM1.1, en2, ⟨gH_fr H1 F2, H2, hI, hR, ⟨g0, ?_⟩, ⟨g1, ?_⟩⟩, t5⟩
  · rw [F2.2 110 (Or.inr (by omega)), F1.2 110 (by omega)]; exact e0
  · rw [F2.2 111 (Or.inr (by omega)), F1.2 111 (by omega)]; exact e1
/-- a call of both that answers an int -/
abbrev LW (l : Launch) (G : pm_G) (ML MM : pm_M) (aL aM : List Value) (h : pm_H) : Prop := ∃ k b h1 h2 S' T' fs g, pm_En l G false false 1 6 ML aL h (.inl (some (.int (nI k))), h1) ∧ h1[95]? = some (pm_Ob 4 fs) ∧ pm_En l G false false 0 0 MM aM h1 (.inl (some (.int b)), h2) ∧ lR S' T' h2 ∧ mG T' 5 = k ∧ k ≤ 4 ∧ h2[110]? = some (pm_Lg 1 g) ∧ (k = 0 → g 0 = b.toInt64)
theorem LW.mk {l : Launch} {G : pm_G} {ML MM : pm_M} {aL aM : List Value} {h h1 : pm_H} {S S' : gS} {T : mS} {k : Nat} {g : Nat → Int64} (lr : lR S T h) (en : pm_En l G false false 1 6 ML aL h (.inl (some (.int (nI k))), h1)) (H1 : gH S' h1) (F1 : ∀ q, 95 ≤ q → q ≠ 110 → h1[q]? = h[q]?) (hg : h1[110]? = some (pm_Lg 1 g)) (hI : gI S') (k4 : k ≤ 4) (md : mH T h1 → pm_Cn l G false false 0 0 MM aM h1 (fun r => ∃ b T', r.1 = .inl (some (.int b)) ∧ mH T' r.2 ∧ mFr h1 r.2 ∧ gR S' T' ∧ mG T' 5 = k ∧ (k = 0 → g 0 = b.toInt64))) : LW l G ML MM aL aM h := by
  obtain ⟨-, HM, -, -, -, ⟨g1, e1⟩⟩ := lr
  have HM1 := mH_fr HM (fun q a b => F1 q a (by omega))
  obtain ⟨⟨o9, h2⟩, ⟨b, T', e9, H2, F2, hR, t5, hb⟩, en2⟩ := md HM1
  dsimp only at e9 H2 F2
  subst e9
  have e2 : h2[110]? = some (pm_Lg 1 g) := by rw [F2.2 110 (Or.inr (by omega))]; exact hg
  refine ⟨k, b, h1, h2, S', T', _, g, en, HM1.1, en2, ⟨gH_fr H1 F2, H2, hI, hR, ⟨g, e2⟩, ⟨g1, ?_⟩⟩, t5, k4, e2, hb⟩
  rw [F2.2 111 (Or.inr (by omega)), F1 111 (by omega) (by omega)]; exact e1
/-- it threw, and the class is as it was -/
theorem LW.thr {l : Launch} {G : pm_G} {ML MM : pm_M} {aL aM : List Value} {h : pm_H} {S : gS} {T T' : mS} {k : Nat} {b : Int32} (lr : lR S T h) (en : pm_En l G false false 1 6 ML aL h (.inl (some (.int (nI k))), h)) (k1 : 1 ≤ k ∧ k ≤ 4) (md : pm_Cn l G false false 0 0 MM aM h (m_P (some (.int b)) T' h)) (hR : gR S T') (t5 : mG T' 5 = k) : LW l G ML MM aL aM h := by
  obtain ⟨HG, HM, hI, -, ⟨g0, e0⟩, -⟩ := id lr
  refine LW.mk lr en HG (fun _ _ _ => rfl) e0 hI k1.2 (fun _ => ?_)
  obtain ⟨r, ⟨a1, a2, a3⟩, k9⟩ := md
  exact ⟨r, ⟨b, T', a1, a2, a3, hR, t5, fun q => by omega⟩, k9⟩
theorem l_slot {p : Int32} (h : ¬ (p < 0 ∨ 20 ≤ p)) : ∃ j, j < 20 ∧ p = nI j := by
  obtain ⟨j, hj, rfl⟩ := nI_of (x := p) (fun q => h (Or.inl q))
  exact ⟨j, Decidable.byContradiction fun r => h (Or.inr ((nI_leI (a := 20) (b := j) (by omega) hj).mpr (by omega))), rfl⟩
theorem l_rng {p lo hi : Int32} {a b : Nat} (e1 : lo = nI a) (e2 : hi = nI b) (hb : b < 1000) (ha : a ≤ b) (h : ¬ p < lo ∧ ¬ hi < p) : ∃ j, p = nI j ∧ a ≤ j ∧ j ≤ b := by
  subst e1; subst e2
  obtain ⟨j, hj, rfl⟩ := nI_of (x := p) (fun q => h.1 (Int32.lt_of_lt_of_le q (nI_pos' (by omega))))
  refine ⟨j, rfl, ?_, ?_⟩
  · exact Decidable.byContradiction fun r => h.1 ((nI_ltI (a := j) (b := a) hj (by omega)).mpr (by omega))
  · exact Decidable.byContradiction fun r => h.2 ((nI_ltI (a := b) (b := j) (by omega) hj).mpr (by omega))
theorem L_table {l : Launch} {G : pm_G} {h : pm_H} {S : gS} {T : mS} {p0 p1 p2 p3 : Int32} (kf : Nat) (hl : l.stackTraces = false) (lr : lR S T h) (hkf : kf ≤ 1) : LV l G M_Lw_table M_Mo_table [.ref 0, .int p0, .int p1, .int p2, .int p3, .int (nI kf)] [.ref 95, .int p0, .int p1, .int p2, .int p3, .int (nI kf)] h := by
  obtain ⟨HG, HM, hI, hR, -, -⟩ := id lr
  have hb := HG.1
  by_cases hs : p0 < 0 ∨ 20 ≤ p0
  · exact LV.mk (k := 1) lr (lw_table_x1 hl hb (c_table_out hl HG hs)) HG (gFr.rf h) hI (fun H => m_table_out hl H hs) (hR.G5 1) rfl
  · obtain ⟨j, hj, rfl⟩ := l_slot hs
    have kk := (hR.1.2.2.2.1 j hj).1
    have bj := hI.1.2.2.2.2.1 j hj
    by_cases hc : gK S j 0 = 0 ∧ (p1 = 0 ∨ p1 = 1) ∧ (¬ p2 < 1 ∧ ¬ 4 < p2) ∧ (¬ p3 < 1 ∧ ¬ 4 < p3)
    · obtain ⟨k0, ht, hr, hcl⟩ := hc
      obtain ⟨t, rfl, t1⟩ : ∃ t, p1 = nI t ∧ t ≤ 1 := by
        rcases ht with rfl | rfl
        · exact ⟨0, rfl, by omega⟩
        · exact ⟨1, rfl, by omega⟩
      obtain ⟨r, rfl, r1, r2⟩ := l_rng (a := 1) (b := 4) rfl rfl (by omega) (by omega) hr
      obtain ⟨c, rfl, c1, c2⟩ := l_rng (a := 1) (b := 4) rfl rfl (by omega) (by omega) hcl
      have k01 : kf = 0 ∨ kf = 1 := by omega
      rcases k01 with rfl | rfl
      · obtain ⟨⟨o7, h7⟩, ⟨e7, H7, F7⟩, en7⟩ := c_table_ok0 (l := l) (G := G) (fi := false) hl HG hI.1 hj k0 t1 ⟨r1, r2⟩ ⟨c1, c2⟩
        dsimp only at e7 H7 F7
        subst e7
        have i1 := gI_unp (gI_table (kk := 1) hI hj k0 (Or.inl rfl) t1 ⟨r1, r2⟩ ⟨c1, c2⟩)
        exact LV.mk (k := 0) lr ((lw_table_ok hl hb en7).more (by omega) (by omega)) H7 F7 i1 (fun H => m_table_ok0 hl H hj (kk.trans k0) t1 ⟨r1, r2⟩ ⟨c1, c2⟩) (gR_unp (gR_table (kk := 1) hI hR hj k0 (Or.inl rfl) ⟨r1, r2⟩ ⟨c1, c2⟩) i1 hI.1.1) rfl
      · obtain ⟨⟨o7, h7⟩, ⟨e7, H7, F7⟩, en7⟩ := c_table_ok1 (l := l) (G := G) (fi := false) hl HG hI.1 hj k0 t1 ⟨r1, r2⟩ ⟨c1, c2⟩
        dsimp only at e7 H7 F7
        subst e7
        have i1 := gI_unp (gI_table (kk := 2) hI hj k0 (Or.inr rfl) t1 ⟨r1, r2⟩ ⟨c1, c2⟩)
        exact LV.mk (k := 0) lr ((lw_table_ok hl hb en7).more (by omega) (by omega)) H7 F7 i1 (fun H => m_table_ok1 hl H hj (kk.trans k0) t1 ⟨r1, r2⟩ ⟨c1, c2⟩) (gR_unp (gR_table (kk := 2) hI hR hj k0 (Or.inr rfl) ⟨r1, r2⟩ ⟨c1, c2⟩) i1 hI.1.1) rfl
    · exact LV.mk (k := 1) lr (lw_table_x1 hl hb (c_table_bad hl HG hI.1 hj hc)) HG (gFr.rf h) hI (fun H => m_table_bad hl H hj (by omega) (by rw [kk]; exact hc)) (hR.G5 1) rfl
theorem L_set {l : Launch} {G : pm_G} {h : pm_H} {S : gS} {T : mS} {p0 p1 p2 : Int32} {v : UInt64} (hl : l.stackTraces = false) (lr : lR S T h) : LV l G M_Lw_set M_Mo_set [.ref 0, .int p0, .int p1, .int p2, .double v] [.ref 95, .int p0, .int p1, .int p2, .double v] h := by
  obtain ⟨HG, HM, hI, hR, -, -⟩ := id lr
  have hb := HG.1
  by_cases hs : p0 < 0 ∨ 20 ≤ p0
  · exact LV.mk (k := 1) lr (lw_set_x1 hl hb (c_set_b1 hl HG hI.1 hs)) HG (gFr.rf h) hI (fun H => m_set_b1 hl H hs) (hR.G5 1) rfl
  · obtain ⟨j, hj, rfl⟩ := l_slot hs
    have kk := (hR.1.2.2.2.1 j hj).1
    have bj := hI.1.2.2.2.2.1 j hj
    have tb : (gK S j 0 = 1 ∨ gK S j 0 = 2) → mTb S T j := fun q => hR.2.2.2.2.1 j hj (Or.inl q)
    by_cases hc : (gK S j 0 = 1 ∨ gK S j 0 = 2) ∧ (¬ p1 < 0 ∧ ¬ nI (gT S j 1) ≤ p1 ∧ ¬ p2 < 0 ∧ ¬ nI (gT S j 2) ≤ p2) ∧ g_st (gT S j 0) v
    · obtain ⟨hk, ⟨i1, i2, i3, i4⟩, hv⟩ := hc
      obtain ⟨t1, t2, t3⟩ := tb hk
      obtain ⟨x, hx9, rfl⟩ := nI_of i1
      obtain ⟨y, hy9, rfl⟩ := nI_of i3
      have hx : x < gT S j 1 := Decidable.byContradiction fun q => i2 ((nI_leI (by omega) hx9).mpr (by omega))
      have hy : y < gT S j 2 := Decidable.byContradiction fun q => i4 ((nI_leI (by omega) hy9).mpr (by omega))
      have key : ∀ (tt : Nat) (v' : UInt64), gT S j 0 = tt → g_cg (gT S j 0) v' →
          (∀ H : mH T h, True) → (gK S j 0 = 1 → pm_Cn l G false false 0 0 M_Gr_set [.ref 0, .int (nI j), .int (nI x), .int (nI y), .double v] h (fun x9 => x9.1 = .inl none ∧ gH (g_clrN (gsS S j x y v') 5 0 (gG S 0)) x9.2 ∧ gFr h x9.2)) → (gK S j 0 = 2 → pm_Cn l G false false 0 0 M_Gr_set [.ref 0, .int (nI j), .int (nI x), .int (nI y), .double v] h (fun x9 => x9.1 = .inl none ∧ gH (g_unp (gsS S j x y v')) x9.2 ∧ gFr h x9.2)) →
          (∀ h1, gK S j 0 = 1 → mH T h1 → pm_Cn l G false false 0 0 M_Mo_set [.ref 95, .int (nI j), .int (nI x), .int (nI y), .double v] h1 (m_P none (msK (msS T j x y v') 0) h1)) → (∀ h1, gK S j 0 = 2 → mH T h1 → pm_Cn l G false false 0 0 M_Mo_set [.ref 95, .int (nI j), .int (nI x), .int (nI y), .double v] h1 (m_P none (mChg (msS T j x y v')) h1)) →
          LV l G M_Lw_set M_Mo_set [.ref 0, .int (nI j), .int (nI x), .int (nI y), .double v] [.ref 95, .int (nI j), .int (nI x), .int (nI y), .double v] h := by
        intro tt v' _ cg _ c1 c2 m1 m2
        rcases hk with k1 | k2
        · obtain ⟨⟨o7, h7⟩, ⟨e7, H7, F7⟩, en7⟩ := c1 k1
          dsimp only at e7 H7 F7
          subst e7
          exact LV.mk (k := 0) lr ((lw_set_ok hl hb en7).more (by omega) (by omega)) H7 F7 (gI_set1 hI cg) (m1 h7 k1) (gR_set1 hI hR hj hx hy) rfl
        · obtain ⟨⟨o7, h7⟩, ⟨e7, H7, F7⟩, en7⟩ := c2 k2
          dsimp only at e7 H7 F7
          subst e7
          have i1 := gI_unp (gI_set2 (x := x) (y := y) hI cg)
          exact LV.mk (k := 0) lr ((lw_set_ok hl hb en7).more (by omega) (by omega)) H7 F7 i1 (m2 h7 k2) (gR_unp (gR_set2 hI hR hj hx hy) i1 hI.1.1) rfl
      have t01 : gT S j 0 = 0 ∨ gT S j 0 = 1 := by omega
      rcases t01 with ht | ht
      · have hv0 : g_st 0 v := by rw [ht] at hv; exact hv
        exact key 0 v ht ⟨fun q => by omega, fun _ => g_in_cg hv.1⟩ (fun _ => trivial) (fun k1 => c_set_ok01 hl HG hI.1 hj ht k1 hx hy hv) (fun k2 => c_set_ok02 hl HG hI.1 hj ht k2 hx hy hv) (fun h1 k1 H => m_set_ok01 hl H hj (by omega) (by omega) (by omega) (by omega) (by omega) (kk.trans k1) hv0) (fun h1 k2 H => m_set_ok02 hl H hj (by omega) (by omega) (by omega) (by omega) (by omega) (kk.trans k2) hv0)
      · have hv1 : g_st 1 v := by rw [ht] at hv; exact hv
        exact key 1 (FP.i2d (FP.d2i v)) ht ⟨fun _ => ⟨_, rfl⟩, fun q => absurd ht q⟩ (fun _ => trivial) (fun k1 => c_set_ok11 hl HG hI.1 hj ht k1 hx hy hv) (fun k2 => c_set_ok12 hl HG hI.1 hj ht k2 hx hy hv) (fun h1 k1 H => m_set_ok11 hl H hj (by omega) (by omega) (by omega) (by omega) (by omega) (kk.trans k1) hv1) (fun h1 k2 H => m_set_ok12 hl H hj (by omega) (by omega) (by omega) (by omega) (by omega) (kk.trans k2) hv1)
    · refine LV.mk (k := 1) lr (lw_set_x1 hl hb (c_set_bad hl HG hI.1 hj hc)) HG (gFr.rf h) hI (fun H => m_set_bad hl H hj (by omega) (fun q => hc ?_) (fun q => ?_)) (hR.G5 1) rfl
      · rw [kk] at q
        obtain ⟨t1, t2, t3⟩ := tb q.1
        rw [t1, t2, t3] at q
        exact q
      · rw [kk] at q
        have := (tb q).1
        omega
theorem L_undo {l : Launch} {G : pm_G} {h : pm_H} {S : gS} {T : mS} (hl : l.stackTraces = false) (lr : lR S T h) : LV l G M_Lw_undo M_Mo_undo [.ref 0] [.ref 95] h := by
  obtain ⟨HG, HM, hI, hR, -, -⟩ := id lr
  have hb := HG.1
  have e0 := hR.1.1
  by_cases h0 : gG S 0 = 0
  · exact LV.mk (k := 1) lr (lw_undo_x1 hl hb (c_undo_bad hl HG h0)) HG (gFr.rf h) hI (fun H => m_undo_bad hl H (e0.trans h0)) (hR.G5 1) rfl
  · obtain ⟨⟨o7, h7⟩, ⟨e7, H7, F7⟩, en7⟩ := c_undo_ok (l := l) (G := G) (fi := false) hl HG hI.1 (by omega)
    dsimp only at e7 H7 F7
    subst e7
    have i1 := gI_undo hI (by omega)
    have b1 := hI.1.1
    have nd := (hR.1.2.2.2.2 (gG S 0 - 1) (by omega)).2.1
    have bo := (hI.arr (n := gG S 0 - 1) (by omega)).2.2.1
    refine LV.mk (k := 0) (T' := mChg (msA (msG (msG T 5 0) 0 (gG S 0 - 1)) 0 (gN S (gG S 0 - 1) 2) 0)) lr ((lw_undo_ok hl hb en7).more (by omega) (by omega)) H7 F7 i1 (fun H => ?_) (gR_undo hI hR (by omega) i1) rfl
    have k9 := m_undo_ok (l := l) (G := G) (fi := false) hl H (by omega) (by omega) (by rw [e0, nd]; exact bo)
    rw [e0, nd] at k9
    exact k9
