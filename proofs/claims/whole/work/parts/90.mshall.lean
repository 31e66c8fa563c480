/-! ===== the model: shape, whatever the operator ===== -/
set_option maxHeartbeats 1000000 in
set_option maxRecDepth 20000 in
theorem m_shape {l : Launch} {G : pm_G} {fi : Bool} {h : pm_H} {S : gS} {T : mS} {n : Nat} (hl : l.stackTraces = false) (H : mH T h) (hW : gW S) (hV : gV S) (hU : gU S) (hn : n < gG S 0) (nd : mNd S T n) (tbs : ∀ k, k < gN S n 0 → mTb S T (g_as S n k)) : pm_Cn l G fi fi 0 0 M_Mo_shape [.ref 95, .int (nI n)] h (m_PX T (gN S n 2) h (g_fn S n)) := by
  have b0 := hW.1
  have bn := hW.2.2.2.2.2 n (by omega)
  have b1 : n < 14 := by omega
  have b2 : gN S n 1 ≤ 18 := bn.2.1
  have b3 : gN S n 2 < 20 := bn.2.2.1
  have b4 := (hU n hn).1
  have pq := (hU n hn).2
  have ar9 := g_ar_ok' (gN S n 1) (by omega)
  have b7 : ∀ k, k < gN S n 0 → g_as S n k < 20 := fun k hk => (hV n hn k hk).2
  obtain ⟨d1, d2, d3, d4, d5, d6, d7⟩ := nd
  have ea : mQ T 12 (n * 3) = nI (g_as S n 0) := by rw [d5]; exact (hV n hn 0 (by omega)).1
  have ha := b7 0 (by omega)
  have ta := tbs 0 (by omega)
  have ra := hW.rng ha
  unfold g_fn
  have hk : gN S n 1 = 0 ∨ gN S n 1 = 1 ∨ gN S n 1 = 2 ∨ gN S n 1 = 3 ∨ gN S n 1 = 4 ∨ gN S n 1 = 5 ∨ gN S n 1 = 6 ∨ gN S n 1 = 7 ∨ gN S n 1 = 8 ∨ gN S n 1 = 9 ∨ gN S n 1 = 10 ∨ gN S n 1 = 11 ∨ gN S n 1 = 12 ∨ gN S n 1 = 13 ∨ gN S n 1 = 14 ∨ gN S n 1 = 15 ∨ gN S n 1 = 16 ∨ gN S n 1 = 17 ∨ gN S n 1 = 18 := by omega
  rcases hk with hop | hop | hop | hop | hop | hop | hop | hop | hop | hop | hop | hop | hop | hop | hop | hop | hop | hop | hop
  · have hop9 : mA T 6 n = 0 := d1.trans hop
    have har : g_ar (gN S n 1) = 2 := by rw [hop]; rfl
    have eb : mQ T 12 (n * 3 + 1) = nI (g_as S n 1) := by rw [d6]; exact (hV n hn 1 (by omega)).1
    have hb := b7 1 (by omega)
    have tb := tbs 1 (by omega)
    have rb := hW.rng hb
    simp only [g_fx, hop]
    exact sh_0 hl H b1 hop9 ea ha ta ra eb hb tb rb d2 b3
  · have hop9 : mA T 6 n = 1 := d1.trans hop
    have har : g_ar (gN S n 1) = 2 := by rw [hop]; rfl
    have eb : mQ T 12 (n * 3 + 1) = nI (g_as S n 1) := by rw [d6]; exact (hV n hn 1 (by omega)).1
    have hb := b7 1 (by omega)
    have tb := tbs 1 (by omega)
    have rb := hW.rng hb
    simp only [g_fx, hop]
    exact sh_1 hl H b1 hop9 ea ha ta ra eb hb tb rb d2 b3
  · have hop9 : mA T 6 n = 2 := d1.trans hop
    have har : g_ar (gN S n 1) = 2 := by rw [hop]; rfl
    have eb : mQ T 12 (n * 3 + 1) = nI (g_as S n 1) := by rw [d6]; exact (hV n hn 1 (by omega)).1
    have hb := b7 1 (by omega)
    have tb := tbs 1 (by omega)
    have rb := hW.rng hb
    simp only [g_fx, hop]
    exact sh_2 hl H b1 hop9 ea ha ta ra eb hb tb rb d2 b3
  · have hop9 : mA T 6 n = 3 := d1.trans hop
    have har : g_ar (gN S n 1) = 2 := by rw [hop]; rfl
    have eb : mQ T 12 (n * 3 + 1) = nI (g_as S n 1) := by rw [d6]; exact (hV n hn 1 (by omega)).1
    have hb := b7 1 (by omega)
    have tb := tbs 1 (by omega)
    have rb := hW.rng hb
    simp only [g_fx, hop]
    exact sh_3 hl H b1 hop9 ea ha ta ra eb hb tb rb d2 b3
  · have hop9 : mA T 6 n = 4 := d1.trans hop
    have har : g_ar (gN S n 1) = 2 := by rw [hop]; rfl
    have eb : mQ T 12 (n * 3 + 1) = nI (g_as S n 1) := by rw [d6]; exact (hV n hn 1 (by omega)).1
    have hb := b7 1 (by omega)
    have tb := tbs 1 (by omega)
    have rb := hW.rng hb
    simp only [g_fx, hop]
    exact sh_4 hl H b1 hop9 ea ha ta ra eb hb tb rb d2 b3
  · have hop9 : mA T 6 n = 5 := d1.trans hop
    have har : g_ar (gN S n 1) = 1 := by rw [hop]; rfl
    simp only [g_fx, hop]
    exact sh_5 hl H b1 hop9 ea ha ta ra d2 b3
  · have hop9 : mA T 6 n = 6 := d1.trans hop
    have har : g_ar (gN S n 1) = 1 := by rw [hop]; rfl
    simp only [g_fx, hop]
    exact sh_6 hl H b1 hop9 ea ha ta ra d2 b3
  · have hop9 : mA T 6 n = 7 := d1.trans hop
    have har : g_ar (gN S n 1) = 1 := by rw [hop]; rfl
    simp only [g_fx, hop]
    by_cases p0 : gQ S n 0 = 0
    · rw [if_pos (Or.inl p0), p0]; exact sh_7_0 hl H b1 hop9 ea ha ta ra d2 b3 (d3.trans p0)
    · by_cases p1 : gQ S n 0 = 1
      · rw [if_pos (Or.inr p1), p1]; exact sh_7_1 hl H b1 hop9 ea ha ta ra d2 b3 (d3.trans p1)
      · rw [if_neg (fun q => q.elim p0 p1)]; exact sh_7_n hl H b1 hop9 ea ha ta ra d2 b3 (by rw [d3]; exact fun q => q.elim p0 p1)
  · have hop9 : mA T 6 n = 8 := d1.trans hop
    have har : g_ar (gN S n 1) = 2 := by rw [hop]; rfl
    have eb : mQ T 12 (n * 3 + 1) = nI (g_as S n 1) := by rw [d6]; exact (hV n hn 1 (by omega)).1
    have hb := b7 1 (by omega)
    have tb := tbs 1 (by omega)
    have rb := hW.rng hb
    simp only [g_fx, hop]
    exact sh_8 hl H b1 hop9 ea ha ta ra eb hb tb rb d2 b3
  · have hop9 : mA T 6 n = 9 := d1.trans hop
    have har : g_ar (gN S n 1) = 3 := by rw [hop]; rfl
    have eb : mQ T 12 (n * 3 + 1) = nI (g_as S n 1) := by rw [d6]; exact (hV n hn 1 (by omega)).1
    have hb := b7 1 (by omega)
    have tb := tbs 1 (by omega)
    have rb := hW.rng hb
    have ec : mQ T 12 (n * 3 + 2) = nI (g_as S n 2) := by rw [d7]; exact (hV n hn 2 (by omega)).1
    have hc := b7 2 (by omega)
    have tc := tbs 2 (by omega)
    have rc := hW.rng hc
    simp only [g_fx, hop]
    have e9 : g_f9 S (g_as S n 0) (g_as S n 2) (if (gT S (g_as S n 0) 1 = gT S (g_as S n 1) 1 ∨ gT S (g_as S n 0) 1 = 1 ∨ gT S (g_as S n 1) 1 = 1) ∧ (gT S (g_as S n 0) 2 = gT S (g_as S n 1) 2 ∨ gT S (g_as S n 0) 2 = 1 ∨ gT S (g_as S n 1) 2 = 1) then g_sh (gT S (g_as S n 0) 0) (max (gT S (g_as S n 0) 1) (gT S (g_as S n 1) 1)) (max (gT S (g_as S n 0) 2) (gT S (g_as S n 1) 2)) else none) = (if (gT S (g_as S n 0) 1 = gT S (g_as S n 1) 1 ∨ gT S (g_as S n 0) 1 = 1 ∨ gT S (g_as S n 1) 1 = 1) ∧ (gT S (g_as S n 0) 2 = gT S (g_as S n 1) 2 ∨ gT S (g_as S n 0) 2 = 1 ∨ gT S (g_as S n 1) 2 = 1) then (if (max (gT S (g_as S n 0) 1) (gT S (g_as S n 1) 1) = gT S (g_as S n 2) 1 ∨ max (gT S (g_as S n 0) 1) (gT S (g_as S n 1) 1) = 1 ∨ gT S (g_as S n 2) 1 = 1) ∧ (max (gT S (g_as S n 0) 2) (gT S (g_as S n 1) 2) = gT S (g_as S n 2) 2 ∨ max (gT S (g_as S n 0) 2) (gT S (g_as S n 1) 2) = 1 ∨ gT S (g_as S n 2) 2 = 1) then g_sh (gT S (g_as S n 0) 0) (max (max (gT S (g_as S n 0) 1) (gT S (g_as S n 1) 1)) (gT S (g_as S n 2) 1)) (max (max (gT S (g_as S n 0) 2) (gT S (g_as S n 1) 2)) (gT S (g_as S n 2) 2)) else none) else none) := by
      obtain ⟨r1, r2, r3, r4, r5⟩ := id ra
      obtain ⟨s1, s2, s3, s4, s5⟩ := id rb
      split
      · rw [g_sh_y (by omega)]; rfl
      · rfl
    rw [e9]
    exact sh_9 hl H b1 hop9 ea ha ta ra eb hb tb rb ec hc tc rc d2 b3
  · have hop9 : mA T 6 n = 10 := d1.trans hop
    have har : g_ar (gN S n 1) = 1 := by rw [hop]; rfl
    simp only [g_fx, hop]
    by_cases p0 : gQ S n 0 = 0
    · rw [if_pos p0]; exact sh_10_0 hl H b1 hop9 ea ha ta ra d2 b3 (d3.trans p0)
    · rw [if_neg p0]
      by_cases p1 : gQ S n 0 = 1
      · rw [if_pos p1]; exact sh_10_1 hl H b1 hop9 ea ha ta ra d2 b3 (d3.trans p1)
      · rw [if_neg p1]; exact sh_10_n hl H b1 hop9 ea ha ta ra d2 b3 (by rw [d3]; exact fun q => q.elim p0 p1)
  · have hop9 : mA T 6 n = 11 := d1.trans hop
    have har : g_ar (gN S n 1) = 1 := by rw [hop]; rfl
    simp only [g_fx, hop]
    by_cases p0 : gQ S n 0 = 0
    · rw [if_pos p0]; exact sh_11_0 hl H b1 hop9 ea ha ta ra d2 b3 (d3.trans p0)
    · rw [if_neg p0]
      by_cases p1 : gQ S n 0 = 1
      · rw [if_pos p1]; exact sh_11_1 hl H b1 hop9 ea ha ta ra d2 b3 (d3.trans p1)
      · rw [if_neg p1]; exact sh_11_n hl H b1 hop9 ea ha ta ra d2 b3 (by rw [d3]; exact fun q => q.elim p0 p1)
  · have hop9 : mA T 6 n = 12 := d1.trans hop
    have har : g_ar (gN S n 1) = 1 := by rw [hop]; rfl
    simp only [g_fx, hop]
    exact sh_12 hl H b1 hop9 ea ha ta ra d2 b3
  · have hop9 : mA T 6 n = 13 := d1.trans hop
    have har : g_ar (gN S n 1) = 2 := by rw [hop]; rfl
    have eb : mQ T 12 (n * 3 + 1) = nI (g_as S n 1) := by rw [d6]; exact (hV n hn 1 (by omega)).1
    have hb := b7 1 (by omega)
    have tb := tbs 1 (by omega)
    have rb := hW.rng hb
    simp only [g_fx, hop]
    by_cases p0 : gQ S n 0 = 0
    · simp only [if_pos p0]; exact sh_13_0 hl H b1 hop9 ea ha ta ra eb hb tb rb d2 b3 (d3.trans p0)
    · simp only [if_neg p0]
      by_cases p1 : gQ S n 0 = 1
      · simp only [if_pos p1]; exact sh_13_1 hl H b1 hop9 ea ha ta ra eb hb tb rb d2 b3 (d3.trans p1)
      · simp only [if_neg p1, ite_self]; exact sh_13_n hl H b1 hop9 ea ha ta ra eb hb tb rb d2 b3 (by rw [d3]; exact fun q => q.elim p0 p1)
  · have hop9 : mA T 6 n = 14 := d1.trans hop
    have har : g_ar (gN S n 1) = 1 := by rw [hop]; rfl
    simp only [g_fx, hop]
    by_cases p0 : gQ S n 0 < 0
    · rw [if_neg (fun q => q.1 p0)]; exact sh_14_a hl H b1 hop9 ea ha ta ra d2 b3 (by rw [d3]; exact p0)
    · by_cases q0 : gQ S n 1 < gQ S n 0
      · rw [if_neg (fun q => q.2 q0)]; exact sh_14_b hl H b1 hop9 ea ha ta ra d2 b3 (by rw [d3]; exact p0) (by rw [d3, d4]; exact q0)
      · rw [if_pos ⟨p0, q0⟩]
        have q1 : ¬ gQ S n 1 < 0 := fun q => q0 (Int32.lt_of_lt_of_le q (Int32.not_lt.mp p0))
        exact sh_14_ok hl H b1 hop9 ea ha ta ra d2 b3 (d3.trans (nI_iN p0)) (d4.trans (nI_iN q1)) (iN_mono q0) (iN_le (k := 8) (by omega) (Int32.not_lt.mp pq.2.2))
  · have hop9 : mA T 6 n = 15 := d1.trans hop
    have har : g_ar (gN S n 1) = 2 := by rw [hop]; rfl
    have eb : mQ T 12 (n * 3 + 1) = nI (g_as S n 1) := by rw [d6]; exact (hV n hn 1 (by omega)).1
    have hb := b7 1 (by omega)
    have tb := tbs 1 (by omega)
    have rb := hW.rng hb
    simp only [g_fx, hop]
    exact sh_15 hl H b1 hop9 ea ha ta ra eb hb tb rb d2 b3
  · have hop9 : mA T 6 n = 16 := d1.trans hop
    have har : g_ar (gN S n 1) = 2 := by rw [hop]; rfl
    have eb : mQ T 12 (n * 3 + 1) = nI (g_as S n 1) := by rw [d6]; exact (hV n hn 1 (by omega)).1
    have hb := b7 1 (by omega)
    have tb := tbs 1 (by omega)
    have rb := hW.rng hb
    simp only [g_fx, hop]
    by_cases q0 : ¬ gQ S n 1 < 0 ∧ ¬ 2 < gQ S n 1
    · by_cases p0 : ¬ gQ S n 0 < 1 ∧ ¬ 2 < gQ S n 0
      · simp only [if_pos (show ¬ gQ S n 0 < 1 ∧ ¬ 2 < gQ S n 0 ∧ ¬ gQ S n 1 < 0 ∧ gQ S n 1 ≤ 2 from ⟨p0.1, p0.2, q0.1, Int32.not_lt.mp q0.2⟩)]
        have hp0 : ¬ gQ S n 0 < 0 := fun q => p0.1 (Int32.lt_trans q (by decide))
        have p1 : 1 ≤ iN (gQ S n 0) := iN_mono (x := 1) p0.1
        exact sh_16_ok hl H b1 hop9 ea ha ta ra eb hb tb rb d2 b3 (d3.trans (nI_iN hp0)) (d4.trans (nI_iN q0.1)) p1 (iN_le (k := 2) (by omega) (Int32.not_lt.mp p0.2)) (iN_le (k := 2) (by omega) (Int32.not_lt.mp q0.2))
      · simp only [if_neg (show ¬ (¬ gQ S n 0 < 1 ∧ ¬ 2 < gQ S n 0 ∧ ¬ gQ S n 1 < 0 ∧ gQ S n 1 ≤ 2) from fun q => p0 ⟨q.1, q.2.1⟩), ite_self]; exact sh_16_p hl H b1 hop9 ea ha ta ra eb hb tb rb d2 b3 (by rw [d4]; exact q0) (by rw [d3]; exact p0)
    · simp only [if_neg (show ¬ (¬ gQ S n 0 < 1 ∧ ¬ 2 < gQ S n 0 ∧ ¬ gQ S n 1 < 0 ∧ gQ S n 1 ≤ 2) from fun q => q0 ⟨q.2.2.1, Int32.not_lt.mpr q.2.2.2⟩), ite_self]; exact sh_16_q hl H b1 hop9 ea ha ta ra eb hb tb rb d2 b3 (by rw [d4]; exact q0)
  · have hop9 : mA T 6 n = 17 := d1.trans hop
    have har : g_ar (gN S n 1) = 3 := by rw [hop]; rfl
    have eb : mQ T 12 (n * 3 + 1) = nI (g_as S n 1) := by rw [d6]; exact (hV n hn 1 (by omega)).1
    have hb := b7 1 (by omega)
    have tb := tbs 1 (by omega)
    have rb := hW.rng hb
    have ec : mQ T 12 (n * 3 + 2) = nI (g_as S n 2) := by rw [d7]; exact (hV n hn 2 (by omega)).1
    have hc := b7 2 (by omega)
    have tc := tbs 2 (by omega)
    have rc := hW.rng hc
    simp only [g_fx, hop]
    exact sh_17 hl H b1 hop9 ea ha ta ra eb hb tb rb ec hc tc rc d2 b3
  · have hop9 : mA T 6 n = 18 := d1.trans hop
    have har : g_ar (gN S n 1) = 1 := by rw [hop]; rfl
    simp only [g_fx, hop]
    exact sh_18 hl H b1 hop9 ea ha ta ra d2 b3
