/-! ===== set: class and model keep together ===== -/
theorem g_in_cg {v : UInt64} (h : ¬ Op.cmpValue (FP.dcmp v 13875379345695965184) .l < 0 ∧ ¬ 0 < Op.cmpValue (FP.dcmp v 4652007308841189376) .g) : gB v ∧ ¬ g_big v := by
  have hn : g_nn v := by
    refine (FP.Core.ne_nan v).mp fun q => h.1 ?_
    have e : FP.dcmp v 13875379345695965184 = none := by
      cases e : FP.dcmp v 13875379345695965184 with
      | none => rfl
      | some o => exact absurd ((FP.Core.notNaN_iff v).mp (FP.Core.dcmp_notNaN e).1) (fun r => r q)
    rw [e]; decide
  have n1 := g_nan hn
  have k1 : FP.Core.dkey 4652007308841189376 = 4652007308841189376 := by decide
  have k2 : FP.Core.dkey 13875379345695965184 = -4652007308841189376 := by decide
  have k3 : FP.Core.dkey 4741671816366391296 = 4741671816366391296 := by decide
  have k4 : FP.Core.dkey 13965043853221167104 = -4741671816366391296 := by decide
  have h1 : FP.dcmp v 4652007308841189376 ≠ some .gt := fun q => h.2 (by rw [q]; decide)
  have h2 : FP.dcmp v 13875379345695965184 ≠ some .lt := fun q => h.1 (by rw [q]; decide)
  have h3 : ¬ (4652007308841189376 : Int) < FP.Core.dkey v := fun q => h1 ((FP.Core.dcmp_gt_key n1 (g_nan (by decide))).mpr (by rw [k1]; exact q))
  have h4 : ¬ FP.Core.dkey v < -4652007308841189376 := fun q => h2 ((FP.Core.dcmp_lt_key n1 (g_nan (by decide))).mpr (by rw [k2]; exact q))
  have hb : ¬ g_big v := by
    rintro (q | q)
    · have e : FP.dcmp v 4741671816366391296 ≠ some .gt := fun r => by
        have := (FP.Core.dcmp_gt_key n1 (g_nan (by decide))).mp r
        rw [k3] at this; omega
      cases e1 : FP.dcmp v 4741671816366391296 with
      | none => rw [e1] at q; exact absurd q (by decide)
      | some o =>
        rw [e1] at q
        cases o with
        | lt => exact absurd q (by decide)
        | eq => exact absurd q (by decide)
        | gt => exact e e1
    · have e : FP.dcmp v 13965043853221167104 ≠ some .lt := fun r => by
        have := (FP.Core.dcmp_lt_key n1 (g_nan (by decide))).mp r
        rw [k4] at this; omega
      cases e1 : FP.dcmp v 13965043853221167104 with
      | none => rw [e1] at q; exact absurd (by decide) q
      | some o =>
        rw [e1] at q
        cases o with
        | lt => exact e e1
        | eq => exact absurd (by decide) q
        | gt => exact absurd (by decide) q
  exact ⟨g_nb hn hb, hb⟩
abbrev gsS (S : gS) (j x y : Nat) (v : UInt64) : gS := gsC S j (va_up (gC S j) (x * 4 + y) v)
abbrev msS (T : mS) (j x y : Nat) (v : UInt64) : mS := msV (msG T 5 0) (j * 16 + x * 4 + y) v
theorem g_gd_set {S : gS} {j x y s : Nat} {v : UInt64} (h : g_gd S s) (hv : g_cg (gT S j 0) v) : g_gd (gsS S j x y v) s := by
  intro x1 y1 hx hy
  have h1 := h x1 y1 hx hy
  show g_cg (gT S s 0) (va_up (gC S) j (va_up (gC S j) (x * 4 + y) v) s (x1 * 4 + y1))
  by_cases e : s = j
  · subst e
    simp only [va_up, if_true]
    split
    · exact hv
    · exact h1
  · simp only [va_up]; rw [if_neg e]; exact h1
theorem mCl_set {S : gS} {T : mS} {j x y s : Nat} {v : UInt64} (hW : gW S) (hs : s < 20) (hj : j < 20) (hx : x < gT S j 1) (hy : y < gT S j 2) (h : mCl S T s) : mCl (gsS S j x y v) (msS T j x y v) s := by
  intro x1 y1 hx1 hy1
  have h1 := h x1 y1 hx1 hy1
  have hx1 : x1 < gT S s 1 := hx1
  have hy1 : y1 < gT S s 2 := hy1
  have bs := hW.2.2.2.2.1 s hs
  have bj := hW.2.2.2.2.1 j hj
  show va_up (mV T) (j * 16 + x * 4 + y) v (s * 16 + x1 * 4 + y1) = va_up (gC S) j (va_up (gC S j) (x * 4 + y) v) s (x1 * 4 + y1)
  by_cases e : s = j
  · subst e
    simp only [va_up, if_true]
    by_cases e2 : x1 * 4 + y1 = x * 4 + y
    · rw [if_pos (by omega), if_pos e2]
    · rw [if_neg (by omega), if_neg e2]; exact h1
  · simp only [va_up]
    rw [if_neg (by omega), if_neg e]; exact h1
theorem gI_set2 {S : gS} {j x y : Nat} {v : UInt64} (h : gI S) (hv : g_cg (gT S j 0) v) : gI1 (gsS S j x y v) := by
  obtain ⟨hW, hV, hU, hJ, hg⟩ := h.to1
  exact ⟨hW, hV, hU, hJ, fun s hs hf => g_gd_set (hg s hs hf) hv⟩
theorem gR_set2 {S : gS} {T : mS} {j x y : Nat} {v : UInt64} (hI : gI S) (h : gR S T) (hj : j < 20) (hx : x < gT S j 1) (hy : y < gT S j 2) : gR1 (gsS S j x y v) (msS T j x y v) := by
  obtain ⟨⟨h0, h2, h3, h4, h5⟩, hf⟩ := h.to1
  exact ⟨⟨h0, h2, h3, h4, h5⟩, fun s hs q => ⟨(hf s hs q).1, mCl_set hI.1 hs hj hx hy (hf s hs q).2⟩⟩
theorem gI_set1 {S : gS} {j x y : Nat} {v : UInt64} (h : gI S) (hv : g_cg (gT S j 0) v) : gI (g_clrN (gsS S j x y v) 5 0 (gG S 0)) := by
  obtain ⟨hW, hV, hU, hJ, h4, h5, h6, h7⟩ := h
  have e5 : ∀ n, n < gG S 0 → gN (g_clrN (gsS S j x y v) 5 0 (gG S 0)) n 5 = 0 := fun n hn => by
    show (if (5 : Nat) = 5 ∧ 0 ≤ n ∧ n < gG S 0 then 0 else _) = 0
    rw [if_pos ⟨rfl, by omega, hn⟩]
  have e4 : ∀ n, gN (g_clrN (gsS S j x y v) 5 0 (gG S 0)) n 4 = gN S n 4 := fun n => by
    show (if (4 : Nat) = 5 ∧ 0 ≤ n ∧ n < gG S 0 then 0 else gN S n 4) = gN S n 4
    rw [if_neg (by omega)]
  refine ⟨gW.clrN (S := gsS S j x y v) hW, gV.clrN (S := gsS S j x y v) hV (by decide), hU, hJ, fun n hn _ => e5 n hn, fun q n hn => ⟨(e4 n).trans (h5 q n hn).1, e5 n hn⟩, h6, fun s hs ht => ?_⟩
  refine g_gd_set (S := S) (h7 s hs ?_) hv
  rcases ht with ht | ⟨t1, t2⟩
  · exact Or.inl ht
  · refine Or.inr ⟨t1, Or.inr ?_⟩
    rcases t2 with t2 | t2
    · exact absurd (e5 _ (hJ.1 s hs t1).1) (fun r => by have t2 : gN (g_clrN (gsS S j x y v) 5 0 (gG S 0)) (gK S s 1) 5 = 1 := t2; omega)
    · exact (e4 _).symm.trans t2
theorem gR_set1 {S : gS} {T : mS} {j x y : Nat} {v : UInt64} (hI : gI S) (h : gR S T) (hj : j < 20) (hx : x < gT S j 1) (hy : y < gT S j 2) : gR (g_clrN (gsS S j x y v) 5 0 (gG S 0)) (msK (msS T j x y v) 0) := by
  obtain ⟨⟨h0, h2, h3, h4, h5⟩, h6, h7, h8, h9, h10, h11⟩ := h
  have b1 := hI.1.1
  have e5 : ∀ n, n < gG S 0 → gN (g_clrN (gsS S j x y v) 5 0 (gG S 0)) n 5 = 0 := fun n hn => by
    show (if (5 : Nat) = 5 ∧ 0 ≤ n ∧ n < gG S 0 then 0 else _) = 0
    rw [if_pos ⟨rfl, by omega, hn⟩]
  have e4 : ∀ n, gN (g_clrN (gsS S j x y v) 5 0 (gG S 0)) n 4 = gN S n 4 := fun n => by
    show (if (4 : Nat) = 5 ∧ 0 ≤ n ∧ n < gG S 0 then 0 else gN S n 4) = gN S n 4
    rw [if_neg (by omega)]
  refine ⟨⟨h0, h2, h3, fun s hs => h4 s hs, fun n hn => h5 n hn⟩, h6, ?_, fun n hn => ?_, fun s hs q => h9 s hs q, fun q => h10 q, fun s hs ht => ?_⟩
  · show mG T 1 = _
    rw [h7]
    exact g_cnt_congr _ _ (fun k _ _ => by show gN S k 4 = 0 ↔ gN (g_clrN (gsS S j x y v) 5 0 (gG S 0)) k 4 = 0; rw [e4])
  · have hn : n < gG S 0 := hn
    have a1 := h8 n hn
    unfold g_ss0 at a1 ⊢
    rw [e4, e5 n hn]
    show (if (10 : Nat) = 10 ∧ 0 ≤ n ∧ n < 14 ∧ nI (mA T 10 n) = 2 then 0 else mA T 10 n) = _
    rw [a1]
    by_cases q : gN S n 4 = 1
    · simp only [if_pos q]
      rw [if_neg (fun z => absurd z.2.2.2 (by decide))]
    · simp only [if_neg q]
      by_cases q2 : gN S n 5 = 1
      · simp only [if_pos q2]
        rw [if_pos ⟨trivial, by omega, by omega, rfl⟩, if_neg (by omega)]
      · simp only [if_neg q2]
        rw [if_neg (fun z => absurd z.2.2.2 (by decide)), if_neg (by omega)]
  · refine mCl_set hI.1 hs hj hx hy (h11 s hs ?_)
    rcases ht with ht | ⟨t1, t2⟩
    · exact Or.inl ht
    · refine Or.inr ⟨t1, Or.inr ?_⟩
      rcases t2 with t2 | t2
      · exact absurd (e5 _ (hI.2.2.2.1.1 s hs t1).1) (fun r => by have t2 : gN (g_clrN (gsS S j x y v) 5 0 (gG S 0)) (gK S s 1) 5 = 1 := t2; omega)
      · exact (e4 _).symm.trans t2
