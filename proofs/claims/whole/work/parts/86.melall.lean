/-! ===== the model: element, whatever the operator ===== -/
abbrev m_PE (S : gS) (T : mS) (n i j : Nat) (h : pm_H) : pm_O × pm_H → Prop := fun r => ∃ x T', r.1 = .inl (some (.double x)) ∧ mH T' r.2 ∧ mFr h r.2 ∧ (g_okE S n i j ∧ T' = T ∧ x = g_En S n i j ∨ ¬ g_okE S n i j ∧ T' = m_tb T (m_tv S n) ∧ x = FP.dconst0)
theorem m_PE_of {l : Launch} {G : pm_G} {fi : Bool} {h : pm_H} {av : List Value} {S : gS} {T : mS} {n i j : Nat} {x : UInt64} (H : mH T h) (k : pm_En l G fi fi 0 0 M_Mo_element av h (.inl (some (.double x)), h)) (ho : g_okE S n i j) (e : x = g_En S n i j) : pm_Cn l G fi fi 0 0 M_Mo_element av h (m_PE S T n i j h) := ⟨_, ⟨x, T, rfl, H, mFr.rf h, Or.inl ⟨ho, rfl, e⟩⟩, k⟩
theorem m_PE_no {l : Launch} {G : pm_G} {fi : Bool} {h : pm_H} {av : List Value} {S : gS} {T : mS} {n i j t : Nat} (k : pm_Cn l G fi fi 0 0 M_Mo_element av h (m_P (some (.double FP.dconst0)) (m_tb T t) h)) (ho : ¬ g_okE S n i j) (e : t = m_tv S n) : pm_Cn l G fi fi 0 0 M_Mo_element av h (m_PE S T n i j h) := by
  obtain ⟨r, ⟨h1, h2, h3⟩, k⟩ := k
  subst e
  exact ⟨r, ⟨_, _, h1, h2, h3, Or.inr ⟨ho, rfl, rfl⟩⟩, k⟩
theorem g_okE_n {S : gS} {n i j : Nat} (h3 : ¬ gN S n 1 = 3) (h15 : ¬ gN S n 1 = 15) : g_okE S n i j := ⟨fun q => absurd q h3, fun q => absurd q h15⟩
theorem g_less_i {u v : UInt64} (hu : ∃ i : Int32, u = FP.i2d i) (hv : ∃ i : Int32, v = FP.i2d i) : (if fLt u v then FP.dconst1 else FP.dconst0) = FP.i2d (g_pi 8 (FP.d2i u) (FP.d2i v)) := by
  obtain ⟨a, rfl⟩ := hu
  obtain ⟨b, rfl⟩ := hv
  have e1 : FP.d2i (FP.i2d a) = a := FP.Core.d2i_i2d a
  have e2 : FP.d2i (FP.i2d b) = b := FP.Core.d2i_i2d b
  rw [e1, e2]
  show _ = FP.i2d (if a < b then 1 else 0)
  by_cases q : a < b
  · rw [if_pos q, if_pos (g_lt_i2d.mpr q), g_i2d1]
  · rw [if_neg q, if_neg (fun r => q (g_lt_i2d.mp r)), g_i2d0]
theorem g_zero_i {v : UInt64} (hv : ∃ i : Int32, v = FP.i2d i) : fEq v FP.dconst0 ↔ FP.d2i v = 0 := by
  obtain ⟨b, rfl⟩ := hv
  have e2 : FP.d2i (FP.i2d b) = b := FP.Core.d2i_i2d b
  rw [e2]
  exact g_eq_i2d
set_option maxHeartbeats 1000000 in
set_option maxRecDepth 20000 in
theorem m_elem {l : Launch} {G : pm_G} {fi : Bool} {h : pm_H} {S : gS} {T : mS} {n i j : Nat} (hl : l.stackTraces = false) (H : mH T h) (hI : gI S) (hr : gG S 1 = 1) (hn : n < gG S 0) (ath : g_ath S n) (he : mEl S T n) (h4 : mG T 4 ≤ 4) (hx : i < gT S (gN S n 2) 1) (hy : j < gT S (gN S n 2) 2) : pm_Cn l G fi fi 0 0 M_Mo_element [.ref 95, .int (nI n), .int (nI i), .int (nI j)] h (m_PE S T n i j h) := by
  obtain ⟨b1, b2, b3, b4, b5, b6, b7⟩ := hI.arr hn
  have hs := (hI.2.2.2.2.2.2.1 hr).2 n hn
  obtain ⟨nd, tbs, cls, c17⟩ := he
  obtain ⟨d1, d2, d3, d4, d5, d6, d7⟩ := nd
  have bo := hI.1.2.2.2.2.1 _ b3
  have hi4 : i < 4 := by omega
  have hj4 : j < 4 := by omega
  have ea : mQ T 12 (n * 3) = nI (g_as S n 0) := by rw [d5]; exact (hI.2.1 n hn 0 (by omega)).1
  have ha := b7 0 (by omega)
  have ta := tbs 0 (by omega)
  have ra := hI.1.rng ha
  have hgd := hI.2.2.2.2.2.2.2
  generalize hro : gT S (gN S n 2) 1 = ro at *
  generalize hco : gT S (gN S n 2) 2 = co at *
  unfold g_fn at hs
  have hk : gN S n 1 = 0 ∨ gN S n 1 = 1 ∨ gN S n 1 = 2 ∨ gN S n 1 = 3 ∨ gN S n 1 = 4 ∨ gN S n 1 = 5 ∨ gN S n 1 = 6 ∨ gN S n 1 = 7 ∨ gN S n 1 = 8 ∨ gN S n 1 = 9 ∨ gN S n 1 = 10 ∨ gN S n 1 = 11 ∨ gN S n 1 = 12 ∨ gN S n 1 = 13 ∨ gN S n 1 = 14 ∨ gN S n 1 = 15 ∨ gN S n 1 = 16 ∨ gN S n 1 = 17 ∨ gN S n 1 = 18 := by omega
  rcases hk with hop | hop | hop | hop | hop | hop | hop | hop | hop | hop | hop | hop | hop | hop | hop | hop | hop | hop | hop
  · have hop9 : mA T 6 n = 0 := d1.trans hop
    obtain ⟨r1, r2, r3, r4, r5⟩ := id ra
    have har : g_ar (gN S n 1) = 2 := by rw [hop]; rfl
    have eb : mQ T 12 (n * 3 + 1) = nI (g_as S n 1) := by rw [d6]; exact (hI.2.1 n hn 1 (by omega)).1
    have hb := b7 1 (by omega)
    have tb := tbs 1 (by omega)
    have rb := hI.1.rng hb
    obtain ⟨s1, s2, s3, s4, s5⟩ := id rb
    have ca := cls (by omega) 0 (by omega)
    have ga := hgd _ ha (ath.1 (by omega) 0 (by omega))
    have cb := cls (by omega) 1 (by omega)
    have gb := hgd _ hb (ath.1 (by omega) 1 (by omega))
    simp only [g_fx, hop] at hs
    obtain ⟨h1, hs⟩ := g_ite_some hs
    obtain ⟨h2, hs⟩ := g_ite_some hs
    obtain ⟨z0, z1, z2⟩ := g_tri (g_sh_eq hs)
    by_cases hty : gT S (g_as S n 0) 0 = 1
    · exact m_PE_of H (e_0i hl H b1 hop9 hi4 hj4 ea ha ta ca ra eb hb tb cb rb (by omega) (by omega) (by omega) (by omega) hty) (g_okE_n (by omega) (by omega)) (by simp only [g_En, g_E, hop]; rw [if_pos hty])
    · exact m_PE_of H (e_0f hl H b1 hop9 hi4 hj4 ea ha ta ca ra eb hb tb cb rb (by omega) (by omega) (by omega) (by omega) hty (g_nadd (g_ag_cg (ro := ro) (co := co) ga ⟨by omega, by omega⟩ ⟨by omega, by omega⟩ hx hy).B (g_ag_cg (ro := ro) (co := co) gb ⟨by omega, by omega⟩ ⟨by omega, by omega⟩ hx hy).B)) (g_okE_n (by omega) (by omega)) (by simp only [g_En, g_E, hop]; rw [if_neg hty])
  · have hop9 : mA T 6 n = 1 := d1.trans hop
    obtain ⟨r1, r2, r3, r4, r5⟩ := id ra
    have har : g_ar (gN S n 1) = 2 := by rw [hop]; rfl
    have eb : mQ T 12 (n * 3 + 1) = nI (g_as S n 1) := by rw [d6]; exact (hI.2.1 n hn 1 (by omega)).1
    have hb := b7 1 (by omega)
    have tb := tbs 1 (by omega)
    have rb := hI.1.rng hb
    obtain ⟨s1, s2, s3, s4, s5⟩ := id rb
    have ca := cls (by omega) 0 (by omega)
    have ga := hgd _ ha (ath.1 (by omega) 0 (by omega))
    have cb := cls (by omega) 1 (by omega)
    have gb := hgd _ hb (ath.1 (by omega) 1 (by omega))
    simp only [g_fx, hop] at hs
    obtain ⟨h1, hs⟩ := g_ite_some hs
    obtain ⟨h2, hs⟩ := g_ite_some hs
    obtain ⟨z0, z1, z2⟩ := g_tri (g_sh_eq hs)
    by_cases hty : gT S (g_as S n 0) 0 = 1
    · exact m_PE_of H (e_1i hl H b1 hop9 hi4 hj4 ea ha ta ca ra eb hb tb cb rb (by omega) (by omega) (by omega) (by omega) hty) (g_okE_n (by omega) (by omega)) (by simp only [g_En, g_E, hop]; rw [if_pos hty])
    · exact m_PE_of H (e_1f hl H b1 hop9 hi4 hj4 ea ha ta ca ra eb hb tb cb rb (by omega) (by omega) (by omega) (by omega) hty (g_nsub (g_ag_cg (ro := ro) (co := co) ga ⟨by omega, by omega⟩ ⟨by omega, by omega⟩ hx hy).B (g_ag_cg (ro := ro) (co := co) gb ⟨by omega, by omega⟩ ⟨by omega, by omega⟩ hx hy).B)) (g_okE_n (by omega) (by omega)) (by simp only [g_En, g_E, hop]; rw [if_neg hty])
  · have hop9 : mA T 6 n = 2 := d1.trans hop
    obtain ⟨r1, r2, r3, r4, r5⟩ := id ra
    have har : g_ar (gN S n 1) = 2 := by rw [hop]; rfl
    have eb : mQ T 12 (n * 3 + 1) = nI (g_as S n 1) := by rw [d6]; exact (hI.2.1 n hn 1 (by omega)).1
    have hb := b7 1 (by omega)
    have tb := tbs 1 (by omega)
    have rb := hI.1.rng hb
    obtain ⟨s1, s2, s3, s4, s5⟩ := id rb
    have ca := cls (by omega) 0 (by omega)
    have ga := hgd _ ha (ath.1 (by omega) 0 (by omega))
    have cb := cls (by omega) 1 (by omega)
    have gb := hgd _ hb (ath.1 (by omega) 1 (by omega))
    simp only [g_fx, hop] at hs
    obtain ⟨h1, hs⟩ := g_ite_some hs
    obtain ⟨h2, hs⟩ := g_ite_some hs
    obtain ⟨z0, z1, z2⟩ := g_tri (g_sh_eq hs)
    by_cases hty : gT S (g_as S n 0) 0 = 1
    · exact m_PE_of H (e_2i hl H b1 hop9 hi4 hj4 ea ha ta ca ra eb hb tb cb rb (by omega) (by omega) (by omega) (by omega) hty) (g_okE_n (by omega) (by omega)) (by simp only [g_En, g_E, hop]; rw [if_pos hty])
    · exact m_PE_of H (e_2f hl H b1 hop9 hi4 hj4 ea ha ta ca ra eb hb tb cb rb (by omega) (by omega) (by omega) (by omega) hty (g_nmul (g_ag_cg (ro := ro) (co := co) ga ⟨by omega, by omega⟩ ⟨by omega, by omega⟩ hx hy).B (g_ag_cg (ro := ro) (co := co) gb ⟨by omega, by omega⟩ ⟨by omega, by omega⟩ hx hy).B)) (g_okE_n (by omega) (by omega)) (by simp only [g_En, g_E, hop]; rw [if_neg hty])
  · have hop9 : mA T 6 n = 3 := d1.trans hop
    obtain ⟨r1, r2, r3, r4, r5⟩ := id ra
    have har : g_ar (gN S n 1) = 2 := by rw [hop]; rfl
    have eb : mQ T 12 (n * 3 + 1) = nI (g_as S n 1) := by rw [d6]; exact (hI.2.1 n hn 1 (by omega)).1
    have hb := b7 1 (by omega)
    have tb := tbs 1 (by omega)
    have rb := hI.1.rng hb
    obtain ⟨s1, s2, s3, s4, s5⟩ := id rb
    have ca := cls (by omega) 0 (by omega)
    have ga := hgd _ ha (ath.1 (by omega) 0 (by omega))
    have cb := cls (by omega) 1 (by omega)
    have gb := hgd _ hb (ath.1 (by omega) 1 (by omega))
    simp only [g_fx, hop] at hs
    obtain ⟨h1, hs⟩ := g_ite_some hs
    obtain ⟨h2, hs⟩ := g_ite_some hs
    obtain ⟨z0, z1, z2⟩ := g_tri (g_sh_eq hs)
    have tv : 3 = m_tv S n := by unfold m_tv; rw [if_neg (by omega)]
    by_cases hty : gT S (g_as S n 0) 0 = 1
    · have zi := g_zero_i ((g_ag_cg (ro := ro) (co := co) gb ⟨by omega, by omega⟩ ⟨by omega, by omega⟩ hx hy).1 (by omega))
      by_cases hz : FP.d2i (g_ag S (g_as S n 1) i j) = 0
      · exact m_PE_no (e_3iz hl H b1 hop9 hi4 hj4 ea ha ta ca ra eb hb tb cb rb (by omega) (by omega) (by omega) (by omega) hty hz h4) (fun q => q.1 hop (zi.mpr hz)) tv
      · exact m_PE_of H (e_3i hl H b1 hop9 hi4 hj4 ea ha ta ca ra eb hb tb cb rb (by omega) (by omega) (by omega) (by omega) hty hz) ⟨fun _ q => hz (zi.mp q), fun q => by omega⟩ (by simp only [g_En, g_E, hop]; rw [if_pos hty])
    · by_cases hz : fEq (g_ag S (g_as S n 1) i j) FP.dconst0
      · exact m_PE_no (e_3fz hl H b1 hop9 hi4 hj4 ea ha ta ca ra eb hb tb cb rb (by omega) (by omega) (by omega) (by omega) hty hz h4) (fun q => q.1 hop hz) tv
      · exact m_PE_of H (e_3f hl H b1 hop9 hi4 hj4 ea ha ta ca ra eb hb tb cb rb (by omega) (by omega) (by omega) (by omega) hty hz (g_ndiv (g_ag_cg (ro := ro) (co := co) ga ⟨by omega, by omega⟩ ⟨by omega, by omega⟩ hx hy).B (g_ag_cg (ro := ro) (co := co) gb ⟨by omega, by omega⟩ ⟨by omega, by omega⟩ hx hy).B hz)) ⟨fun _ => hz, fun q => by omega⟩ (by simp only [g_En, g_E, hop]; rw [if_neg hty])
  · have hop9 : mA T 6 n = 4 := d1.trans hop
    obtain ⟨r1, r2, r3, r4, r5⟩ := id ra
    have har : g_ar (gN S n 1) = 2 := by rw [hop]; rfl
    have eb : mQ T 12 (n * 3 + 1) = nI (g_as S n 1) := by rw [d6]; exact (hI.2.1 n hn 1 (by omega)).1
    have hb := b7 1 (by omega)
    have tb := tbs 1 (by omega)
    have rb := hI.1.rng hb
    obtain ⟨s1, s2, s3, s4, s5⟩ := id rb
    have ca := cls (by omega) 0 (by omega)
    have ga := hgd _ ha (ath.1 (by omega) 0 (by omega))
    have cb := cls (by omega) 1 (by omega)
    have gb := hgd _ hb (ath.1 (by omega) 1 (by omega))
    simp only [g_fx, hop] at hs
    obtain ⟨h1, hs⟩ := g_ite_some hs
    obtain ⟨z0, z1, z2⟩ := g_tri (g_sh_eq hs)
    exact m_PE_of H (e_4 hl H b1 hop9 hi4 hj4 ea ha ta ca ra eb hb tb cb rb h1.2 (by omega) (by omega) (fun k9 hk9 => (ga i k9 (by omega) hk9).B) (fun k9 hk9 => (gb k9 j (by omega) (by omega)).B)) (g_okE_n (by omega) (by omega)) (by simp only [g_En, g_E, hop])
  · have hop9 : mA T 6 n = 5 := d1.trans hop
    obtain ⟨r1, r2, r3, r4, r5⟩ := id ra
    have har : g_ar (gN S n 1) = 1 := by rw [hop]; rfl
    have ca := cls (by omega) 0 (by omega)
    have ga := hgd _ ha (ath.1 (by omega) 0 (by omega))
    simp only [g_fx, hop] at hs
    obtain ⟨h1, hs⟩ := g_ite_some hs
    obtain ⟨z0, z1, z2⟩ := g_tri (g_sh_eq hs)
    exact m_PE_of H (e_5 hl H b1 hop9 hi4 hj4 ea ha ta ca ra (by omega) (by omega)) (g_okE_n (by omega) (by omega)) (by simp only [g_En, g_E, g_one, hop])
  · have hop9 : mA T 6 n = 6 := d1.trans hop
    obtain ⟨r1, r2, r3, r4, r5⟩ := id ra
    have har : g_ar (gN S n 1) = 1 := by rw [hop]; rfl
    have ca := cls (by omega) 0 (by omega)
    have ga := hgd _ ha (ath.1 (by omega) 0 (by omega))
    simp only [g_fx, hop] at hs
    obtain ⟨z0, z1, z2⟩ := g_tri (g_sh_eq hs)
    exact m_PE_of H (e_6 hl H b1 hop9 hi4 hj4 ea ha ta ca ra (by omega) (by omega)) (g_okE_n (by omega) (by omega)) (by simp only [g_En, g_E, hop])
  · have hop9 : mA T 6 n = 7 := d1.trans hop
    obtain ⟨r1, r2, r3, r4, r5⟩ := id ra
    have har : g_ar (gN S n 1) = 1 := by rw [hop]; rfl
    have ca := cls (by omega) 0 (by omega)
    have ga := hgd _ ha (ath.1 (by omega) 0 (by omega))
    simp only [g_fx, hop] at hs
    obtain ⟨h1, hs⟩ := g_ite_some hs
    obtain ⟨z0, z1, z2⟩ := g_tri (g_sh_eq hs)
    exact m_PE_of H (e_7 hl H b1 hop9 hi4 hj4 ea ha ta ca ra (by omega) (by omega)) (g_okE_n (by omega) (by omega)) (by simp only [g_En, g_E, g_one, hop, d3])
  · have hop9 : mA T 6 n = 8 := d1.trans hop
    obtain ⟨r1, r2, r3, r4, r5⟩ := id ra
    have har : g_ar (gN S n 1) = 2 := by rw [hop]; rfl
    have eb : mQ T 12 (n * 3 + 1) = nI (g_as S n 1) := by rw [d6]; exact (hI.2.1 n hn 1 (by omega)).1
    have hb := b7 1 (by omega)
    have tb := tbs 1 (by omega)
    have rb := hI.1.rng hb
    obtain ⟨s1, s2, s3, s4, s5⟩ := id rb
    have ca := cls (by omega) 0 (by omega)
    have ga := hgd _ ha (ath.1 (by omega) 0 (by omega))
    have cb := cls (by omega) 1 (by omega)
    have gb := hgd _ hb (ath.1 (by omega) 1 (by omega))
    simp only [g_fx, hop] at hs
    obtain ⟨h1, hs⟩ := g_ite_some hs
    obtain ⟨h2, hs⟩ := g_ite_some hs
    obtain ⟨z0, z1, z2⟩ := g_tri (g_sh_eq hs)
    by_cases hty : gT S (g_as S n 0) 0 = 1
    · exact m_PE_of H (e_8 hl H b1 hop9 hi4 hj4 ea ha ta ca ra eb hb tb cb rb (by omega) (by omega) (by omega) (by omega)) (g_okE_n (by omega) (by omega)) (by simp only [g_En, g_E, hop]; rw [if_pos hty]; exact g_less_i ((g_ag_cg (ro := ro) (co := co) ga ⟨by omega, by omega⟩ ⟨by omega, by omega⟩ hx hy).1 hty) ((g_ag_cg (ro := ro) (co := co) gb ⟨by omega, by omega⟩ ⟨by omega, by omega⟩ hx hy).1 (by omega)))
    · exact m_PE_of H (e_8 hl H b1 hop9 hi4 hj4 ea ha ta ca ra eb hb tb cb rb (by omega) (by omega) (by omega) (by omega)) (g_okE_n (by omega) (by omega)) (by simp only [g_En, g_E, hop]; rw [if_neg hty]; rfl)
  · have hop9 : mA T 6 n = 9 := d1.trans hop
    obtain ⟨r1, r2, r3, r4, r5⟩ := id ra
    have har : g_ar (gN S n 1) = 3 := by rw [hop]; rfl
    have eb : mQ T 12 (n * 3 + 1) = nI (g_as S n 1) := by rw [d6]; exact (hI.2.1 n hn 1 (by omega)).1
    have hb := b7 1 (by omega)
    have tb := tbs 1 (by omega)
    have rb := hI.1.rng hb
    obtain ⟨s1, s2, s3, s4, s5⟩ := id rb
    have ec : mQ T 12 (n * 3 + 2) = nI (g_as S n 2) := by rw [d7]; exact (hI.2.1 n hn 2 (by omega)).1
    have hc := b7 2 (by omega)
    have tc := tbs 2 (by omega)
    have rc := hI.1.rng hc
    obtain ⟨q1, q2, q3, q4, q5⟩ := id rc
    have ca := cls (by omega) 0 (by omega)
    have ga := hgd _ ha (ath.1 (by omega) 0 (by omega))
    have cb := cls (by omega) 1 (by omega)
    have gb := hgd _ hb (ath.1 (by omega) 1 (by omega))
    have cc := cls (by omega) 2 (by omega)
    simp only [g_fx, hop] at hs
    obtain ⟨h1, hs⟩ := g_ite_some hs
    have h9 : ∃ r9 c9, (gT S (g_as S n 0) 1 = gT S (g_as S n 1) 1 ∨ gT S (g_as S n 0) 1 = 1 ∨ gT S (g_as S n 1) 1 = 1) ∧ (gT S (g_as S n 0) 2 = gT S (g_as S n 1) 2 ∨ gT S (g_as S n 0) 2 = 1 ∨ gT S (g_as S n 1) 2 = 1) ∧ r9 = max (gT S (g_as S n 0) 1) (gT S (g_as S n 1) 1) ∧ c9 = max (gT S (g_as S n 0) 2) (gT S (g_as S n 1) 2) ∧ (r9 = gT S (g_as S n 2) 1 ∨ r9 = 1 ∨ gT S (g_as S n 2) 1 = 1) ∧ (c9 = gT S (g_as S n 2) 2 ∨ c9 = 1 ∨ gT S (g_as S n 2) 2 = 1) ∧ ro = max r9 (gT S (g_as S n 2) 1) ∧ co = max c9 (gT S (g_as S n 2) 2) := by
      split at hs
      · rename_i h8
        have e8 : g_sh (gT S (g_as S n 0) 0) (max (gT S (g_as S n 0) 1) (gT S (g_as S n 1) 1)) (max (gT S (g_as S n 0) 2) (gT S (g_as S n 1) 2)) = some (gT S (g_as S n 0) 0, max (gT S (g_as S n 0) 1) (gT S (g_as S n 1) 1), max (gT S (g_as S n 0) 2) (gT S (g_as S n 1) 2)) := by unfold g_sh; rw [if_pos (by omega)]
        rw [e8] at hs
        simp only [g_f9] at hs
        obtain ⟨h7, hs⟩ := g_ite_some hs
        obtain ⟨z0, z1, z2⟩ := g_tri (g_sh_eq hs)
        exact ⟨_, _, h8.1, h8.2, rfl, rfl, h7.1, h7.2, z1, z2⟩
      · simp only [g_f9] at hs; cases hs
    obtain ⟨r9, c9, z1, z2, z3, z4, z5, z6, z7, z8⟩ := h9
    exact m_PE_of H (e_9 hl H b1 hop9 hi4 hj4 ea ha ta ca ra eb hb tb cb rb ec hc tc cc rc (by omega) (by omega) (by omega) (by omega) (by omega) (by omega)) (g_okE_n (by omega) (by omega)) (by simp only [g_En, g_E, hop])
  · have hop9 : mA T 6 n = 10 := d1.trans hop
    obtain ⟨r1, r2, r3, r4, r5⟩ := id ra
    have har : g_ar (gN S n 1) = 1 := by rw [hop]; rfl
    have ca := cls (by omega) 0 (by omega)
    have ga := hgd _ ha (ath.1 (by omega) 0 (by omega))
    simp only [g_fx, hop] at hs
    by_cases hp : gQ S n 0 = 0
    · rw [if_pos hp] at hs
      obtain ⟨z0, z1, z2⟩ := g_tri (g_sh_eq hs)
      by_cases hty : gT S (g_as S n 0) 0 = 1
      · exact m_PE_of H (e_10_11 hl H b1 hop9 hi4 hj4 ea ha ta ca ra (by omega) (d3.trans hp) hty) (g_okE_n (by omega) (by omega)) (by simp only [g_En, g_E, hop]; rw [if_pos hp])
      · exact m_PE_of H (e_10_10 hl H b1 hop9 hi4 hj4 ea ha ta ca ra (by omega) (d3.trans hp) hty (fun k9 hk9 => (ga k9 j hk9 (by omega)).B)) (g_okE_n (by omega) (by omega)) (by simp only [g_En, g_E, hop]; rw [if_pos hp])
    · rw [if_neg hp] at hs
      obtain ⟨hp1, hs⟩ := g_ite_some hs
      obtain ⟨z0, z1, z2⟩ := g_tri (g_sh_eq hs)
      by_cases hty : gT S (g_as S n 0) 0 = 1
      · exact m_PE_of H (e_10_01 hl H b1 hop9 hi4 hj4 ea ha ta ca ra (by omega) (d3.trans hp1) hty) (g_okE_n (by omega) (by omega)) (by simp only [g_En, g_E, hop]; rw [if_neg hp])
      · exact m_PE_of H (e_10_00 hl H b1 hop9 hi4 hj4 ea ha ta ca ra (by omega) (d3.trans hp1) hty (fun k9 hk9 => (ga i k9 (by omega) hk9).B)) (g_okE_n (by omega) (by omega)) (by simp only [g_En, g_E, hop]; rw [if_neg hp])
  · have hop9 : mA T 6 n = 11 := d1.trans hop
    obtain ⟨r1, r2, r3, r4, r5⟩ := id ra
    have har : g_ar (gN S n 1) = 1 := by rw [hop]; rfl
    have ca := cls (by omega) 0 (by omega)
    have ga := hgd _ ha (ath.1 (by omega) 0 (by omega))
    simp only [g_fx, hop] at hs
    by_cases hp : gQ S n 0 = 0
    · rw [if_pos hp] at hs
      obtain ⟨z0, z1, z2⟩ := g_tri (g_sh_eq hs)
      exact m_PE_of H (e_11_1 hl H b1 hop9 hi4 hj4 ea ha ta ca ra (by omega) (d3.trans hp)) (g_okE_n (by omega) (by omega)) (by simp only [g_En, g_E, hop]; rw [if_pos hp])
    · rw [if_neg hp] at hs
      obtain ⟨hp1, hs⟩ := g_ite_some hs
      obtain ⟨z0, z1, z2⟩ := g_tri (g_sh_eq hs)
      exact m_PE_of H (e_11_0 hl H b1 hop9 hi4 hj4 ea ha ta ca ra (by omega) (d3.trans hp1)) (g_okE_n (by omega) (by omega)) (by simp only [g_En, g_E, hop]; rw [if_neg hp])
  · have hop9 : mA T 6 n = 12 := d1.trans hop
    obtain ⟨r1, r2, r3, r4, r5⟩ := id ra
    have har : g_ar (gN S n 1) = 1 := by rw [hop]; rfl
    have ca := cls (by omega) 0 (by omega)
    have ga := hgd _ ha (ath.1 (by omega) 0 (by omega))
    simp only [g_fx, hop] at hs
    obtain ⟨z0, z1, z2⟩ := g_tri (g_sh_eq hs)
    exact m_PE_of H (e_12 hl H b1 hop9 hi4 hj4 ea ha ta ca ra (by omega)) (g_okE_n (by omega) (by omega)) (by simp only [g_En, g_E, hop])
  · have hop9 : mA T 6 n = 13 := d1.trans hop
    obtain ⟨r1, r2, r3, r4, r5⟩ := id ra
    have har : g_ar (gN S n 1) = 2 := by rw [hop]; rfl
    have eb : mQ T 12 (n * 3 + 1) = nI (g_as S n 1) := by rw [d6]; exact (hI.2.1 n hn 1 (by omega)).1
    have hb := b7 1 (by omega)
    have tb := tbs 1 (by omega)
    have rb := hI.1.rng hb
    obtain ⟨s1, s2, s3, s4, s5⟩ := id rb
    have ca := cls (by omega) 0 (by omega)
    have ga := hgd _ ha (ath.1 (by omega) 0 (by omega))
    have cb := cls (by omega) 1 (by omega)
    have gb := hgd _ hb (ath.1 (by omega) 1 (by omega))
    simp only [g_fx, hop] at hs
    obtain ⟨h1, hs⟩ := g_ite_some hs
    by_cases hp : gQ S n 0 = 0
    · rw [if_pos hp] at hs
      obtain ⟨h2, hs⟩ := g_ite_some hs
      obtain ⟨z0, z1, z2⟩ := g_tri (g_sh_eq hs)
      exact m_PE_of H (e_13_0 hl H b1 hop9 hi4 hj4 ea ha ta ca ra eb hb tb cb rb (d3.trans hp) (by omega) (by omega) (by omega)) (g_okE_n (by omega) (by omega)) (by simp only [g_En, g_E, hop]; rw [if_pos hp])
    · rw [if_neg hp] at hs
      obtain ⟨hp1, hs⟩ := g_ite_some hs
      obtain ⟨h2, hs⟩ := g_ite_some hs
      obtain ⟨z0, z1, z2⟩ := g_tri (g_sh_eq hs)
      exact m_PE_of H (e_13_1 hl H b1 hop9 hi4 hj4 ea ha ta ca ra eb hb tb cb rb (d3.trans hp1) (by omega) (by omega) (by omega)) (g_okE_n (by omega) (by omega)) (by simp only [g_En, g_E, hop]; rw [if_neg hp])
  · have hop9 : mA T 6 n = 14 := d1.trans hop
    obtain ⟨r1, r2, r3, r4, r5⟩ := id ra
    have har : g_ar (gN S n 1) = 1 := by rw [hop]; rfl
    have ca := cls (by omega) 0 (by omega)
    have ga := hgd _ ha (ath.1 (by omega) 0 (by omega))
    simp only [g_fx, hop] at hs
    obtain ⟨h1, hs⟩ := g_ite_some hs
    obtain ⟨h2, hs⟩ := g_ite_some hs
    obtain ⟨z0, z1, z2⟩ := g_tri (g_sh_eq hs)
    have le := iN_mono h1.2
    exact m_PE_of H (e_14 hl H b1 hop9 hi4 hj4 ea ha ta ca ra (d3.trans (nI_iN h1.1)) (by omega) (by omega)) (g_okE_n (by omega) (by omega)) (by simp only [g_En, g_E, hop])
  · have hop9 : mA T 6 n = 15 := d1.trans hop
    obtain ⟨r1, r2, r3, r4, r5⟩ := id ra
    have har : g_ar (gN S n 1) = 2 := by rw [hop]; rfl
    have eb : mQ T 12 (n * 3 + 1) = nI (g_as S n 1) := by rw [d6]; exact (hI.2.1 n hn 1 (by omega)).1
    have hb := b7 1 (by omega)
    have tb := tbs 1 (by omega)
    have rb := hI.1.rng hb
    obtain ⟨s1, s2, s3, s4, s5⟩ := id rb
    have ca := cls (by omega) 0 (by omega)
    have ga := hgd _ ha (ath.1 (by omega) 0 (by omega))
    have cb := cls (by omega) 1 (by omega)
    have gb := hgd _ hb (ath.1 (by omega) 1 (by omega))
    simp only [g_fx, hop] at hs
    obtain ⟨h1, hs⟩ := g_ite_some hs
    obtain ⟨z0, z1, z2⟩ := g_tri (g_sh_eq hs)
    by_cases hin : g_inR S (g_as S n 0) (g_as S n 1) i
    · exact m_PE_of H (e_15 hl H b1 hop9 hi4 hj4 ea ha ta ca ra eb hb tb cb rb (by omega) (by omega) hin) ⟨fun q => by omega, fun _ => hin⟩ (by simp only [g_En, g_E, hop])
    · exact m_PE_no (e_15n hl H b1 hop9 hi4 hj4 ea ha ta ca ra eb hb tb cb rb (by omega) (by omega) hin h4) (fun q => hin (q.2 hop)) (by unfold m_tv; rw [if_pos hop])
  · have hop9 : mA T 6 n = 16 := d1.trans hop
    obtain ⟨r1, r2, r3, r4, r5⟩ := id ra
    have har : g_ar (gN S n 1) = 2 := by rw [hop]; rfl
    have eb : mQ T 12 (n * 3 + 1) = nI (g_as S n 1) := by rw [d6]; exact (hI.2.1 n hn 1 (by omega)).1
    have hb := b7 1 (by omega)
    have tb := tbs 1 (by omega)
    have rb := hI.1.rng hb
    obtain ⟨s1, s2, s3, s4, s5⟩ := id rb
    have ca := cls (by omega) 0 (by omega)
    have ga := hgd _ ha (ath.1 (by omega) 0 (by omega))
    have cb := cls (by omega) 1 (by omega)
    have gb := hgd _ hb (ath.1 (by omega) 1 (by omega))
    simp only [g_fx, hop] at hs
    obtain ⟨h1, hs⟩ := g_ite_some hs
    obtain ⟨h2, hs⟩ := g_ite_some hs
    obtain ⟨h3, hs⟩ := g_ite_some hs
    obtain ⟨z0, z1, z2⟩ := g_tri (g_sh_eq hs)
    have hp0 : ¬ gQ S n 0 < 0 := fun q => h2.1 (Int32.lt_iff_toInt_lt.mpr (by have q2 : (gQ S n 0).toInt < 0 := Int32.lt_iff_toInt_lt.mp q; have q3 : (1 : Int32).toInt = 1 := rfl; omega))
    have p2 := iN_le (k := 2) (by omega) (Int32.not_lt.mp h2.2.1)
    have q2 := iN_le (k := 2) (by omega) h2.2.2.2
    exact m_PE_of H (e_16 hl H b1 hop9 hi4 hj4 ea ha ta ca ra eb hb tb cb rb (d3.trans (nI_iN hp0)) (d4.trans (nI_iN h2.2.2.1)) p2 q2 (by omega) (fun k9 hk9 => (ga i k9 (by omega) hk9).B) (fun k9 hk9 => (gb 0 k9 (by omega) hk9).B)) (g_okE_n (by omega) (by omega)) (by simp only [g_En, g_E, hop])
  · have hop9 : mA T 6 n = 17 := d1.trans hop
    obtain ⟨r1, r2, r3, r4, r5⟩ := id ra
    have har : g_ar (gN S n 1) = 3 := by rw [hop]; rfl
    have eb : mQ T 12 (n * 3 + 1) = nI (g_as S n 1) := by rw [d6]; exact (hI.2.1 n hn 1 (by omega)).1
    have hb := b7 1 (by omega)
    have tb := tbs 1 (by omega)
    have rb := hI.1.rng hb
    obtain ⟨s1, s2, s3, s4, s5⟩ := id rb
    have ec : mQ T 12 (n * 3 + 2) = nI (g_as S n 2) := by rw [d7]; exact (hI.2.1 n hn 2 (by omega)).1
    have hc := b7 2 (by omega)
    have tc := tbs 2 (by omega)
    have rc := hI.1.rng hc
    obtain ⟨q1, q2, q3, q4, q5⟩ := id rc
    simp only [g_fx, hop] at hs
    obtain ⟨h1, hs⟩ := g_ite_some hs
    obtain ⟨z0, z1, z2⟩ := g_tri (g_sh_eq hs)
    have c17 := c17 hop
    have cc0 : mV T (g_as S n 2 * 16) = gC S (g_as S n 2) (0 * 4 + 0) := c17.1 0 0 (by omega) (by omega)
    by_cases hz : fEq (gC S (g_as S n 2) (0 * 4 + 0)) FP.dconst0
    · exact m_PE_of H (e_17_1 hl H b1 hop9 hi4 hj4 ea ha ta ra eb hb tb (c17.2.1 hz) rb ec hc tc rc cc0 hz (by omega) (by omega)) (g_okE_n (by omega) (by omega)) (by simp only [g_En, g_E, hop]; rw [if_pos hz])
    · exact m_PE_of H (e_17_0 hl H b1 hop9 hi4 hj4 ea ha ta (c17.2.2 hz) ra eb hb tb rb ec hc tc rc cc0 hz (by omega) (by omega)) (g_okE_n (by omega) (by omega)) (by simp only [g_En, g_E, hop]; rw [if_neg hz])
  · have hop9 : mA T 6 n = 18 := d1.trans hop
    obtain ⟨r1, r2, r3, r4, r5⟩ := id ra
    have har : g_ar (gN S n 1) = 1 := by rw [hop]; rfl
    have ca := cls (by omega) 0 (by omega)
    have ga := hgd _ ha (ath.1 (by omega) 0 (by omega))
    simp only [g_fx, hop] at hs
    obtain ⟨h1, hs⟩ := g_ite_some hs
    obtain ⟨z0, z1, z2⟩ := g_tri (g_sh_eq hs)
    exact m_PE_of H (e_18 hl H b1 hop9 hi4 hj4 ea ha ta ca ra (by omega) (by omega)) (g_okE_n (by omega) (by omega)) (by simp only [g_En, g_E, g_one, hop, d3, d4])
