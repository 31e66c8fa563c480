/-! ===== what changes the graph: class and model keep together ===== -/
def gI1 (S : gS) : Prop := gW S ∧ gV S ∧ gU S ∧ gJ S ∧ (∀ s, s < 20 → g_fed S s → g_gd S s)
def gR1 (S : gS) (T : mS) : Prop := gR0 S T ∧ (∀ s, s < 20 → g_fed S s → mTb S T s ∧ mCl S T s)
theorem gI.to1 {S : gS} (h : gI S) : gI1 S := ⟨h.1, h.2.1, h.2.2.1, h.2.2.2.1, fun s hs hf => h.2.2.2.2.2.2.2 s hs (Or.inl hf)⟩
theorem gR.to1 {S : gS} {T : mS} (h : gR S T) : gR1 S T := ⟨h.1, fun s hs hf => ⟨h.2.2.2.2.1 s hs (Or.inl hf), h.2.2.2.2.2.2 s hs (Or.inl hf)⟩⟩
theorem g_thP_un {S : gS} (hJ : gJ S) (hf : ∀ n, n < gG S 0 → gN S n 4 = 0 ∧ gN S n 5 = 0) {s : Nat} (hs : s < 20) (h : g_thP S s) : g_fed S s := by
  rcases h with h | ⟨h1, h2⟩
  · exact h
  · have h3 := hf _ (hJ.1 s hs h1).1
    omega
theorem gI_un {S : gS} (h : gI1 S) (hr : gG S 1 = 0) (hf : ∀ n, n < gG S 0 → gN S n 4 = 0 ∧ gN S n 5 = 0) : gI S :=
  ⟨h.1, h.2.1, h.2.2.1, h.2.2.2.1, fun n hn q => by have := hf n hn; omega, fun _ => hf, fun q => by omega, fun s hs ht => h.2.2.2.2 s hs (g_thP_un h.2.2.2.1 hf hs ht)⟩
theorem gR_un {S : gS} {T : mS} (h : gR1 S T) (hJ : gJ S) (hr : gG S 1 = 0) (hf : ∀ n, n < gG S 0 → gN S n 4 = 0 ∧ gN S n 5 = 0) (t6 : mG T 6 = 0) (t1 : mG T 1 = 0) (t10 : ∀ n, n < gG S 0 → mA T 10 n = 0) : gR S T := by
  refine ⟨h.1, by rw [t6, hr], ?_, fun n hn => ?_, fun s hs q => ?_, fun q => by omega, fun s hs q => (h.2 s hs (g_thP_un hJ hf hs q)).2⟩
  · rw [t1, g_cnt_0]
    intro k _ hk
    exact (hf k (by omega)).1
  · have := hf n hn
    rw [t10 n hn]
    unfold g_ss0
    rw [if_neg (by omega), if_neg (by omega)]
  · rcases q with q | q
    · exact (h.2 s hs q).1
    · omega
theorem gI_unp {S : gS} (h : gI1 S) : gI (g_unp S) := by
  obtain ⟨hW, hV, hU, hJ, hg⟩ := h
  refine gI_un ⟨hW.unp, ?_, ?_, ?_, hg⟩ rfl ?_
  · exact gV.clrN (gV.clrN (S := gsG S 1 0) hV (by decide)) (by decide)
  · exact hU
  · exact hJ
  · intro n hn
    have hn : n < gG S 0 := hn
    constructor
    · show (if (4 : Nat) = 4 ∧ 0 ≤ n ∧ n < gG S 0 then 0 else _) = 0
      rw [if_pos ⟨rfl, by omega, hn⟩]
    · show (if (5 : Nat) = 4 ∧ 0 ≤ n ∧ n < gG S 0 then 0 else if (5 : Nat) = 5 ∧ 0 ≤ n ∧ n < gG S 0 then 0 else _) = 0
      rw [if_neg (by omega), if_pos ⟨rfl, by omega, hn⟩]
theorem gR_unp {S : gS} {T : mS} (h : gR1 S T) (hI : gI (g_unp S)) (hn14 : gG S 0 ≤ 14) : gR (g_unp S) (mChg T) := by
  refine gR_un (T := mChg T) ⟨?_, ?_⟩ hI.2.2.2.1 rfl (hI.2.2.2.2.2.1 rfl) rfl rfl ?_
  · obtain ⟨⟨h0, h2, h3, h4, h5⟩, -⟩ := h
    exact ⟨h0, h2, h3, fun s hs => h4 s hs, fun n hn => h5 n hn⟩
  · exact h.2
  · intro n hn
    have hn : n < gG S 0 := hn
    show (if (10 : Nat) = 10 ∧ 0 ≤ n ∧ n < 14 then 0 else _) = 0
    rw [if_pos ⟨rfl, by omega, by omega⟩]
theorem g_cg0 (t : Nat) : g_cg t FP.dconst0 := ⟨fun _ => ⟨0, g_i2d0⟩, fun _ => ⟨g_B0, by decide +kernel⟩⟩
/-- table -/
abbrev gtS (S : gS) (j kk t r c : Nat) : gS := gsC (gsT (gsT (gsT (gsK S j 0 kk) j 0 t) j 1 r) j 2 c) j (g_z16 (gC (gsT (gsT (gsT (gsK S j 0 kk) j 0 t) j 1 r) j 2 c) j) 0)
abbrev mtS (T : mS) (j kk t r c : Nat) : mS := msV0 (msA (msA (msA (msA (msG T 5 0) 0 j kk) 1 j t) 2 j r) 3 j c) j 0
theorem gI_table {S : gS} {j kk t r c : Nat} (h : gI S) (hj : j < 20) (hk : gK S j 0 = 0) (k12 : kk = 1 ∨ kk = 2) (ht : t ≤ 1) (hr : 1 ≤ r ∧ r ≤ 4) (hc : 1 ≤ c ∧ c ≤ 4) : gI1 (gtS S j kk t r c) := by
  obtain ⟨hW, hV, hU, hJ, hg⟩ := h.to1
  refine ⟨gW.C (gW.T (gW.K hW ⟨fun _ => by omega, fun q => by omega⟩) ht hr hc), hV, hU, ?_, ?_⟩
  · constructor
    · intro s hs q
      have q : g_up2 (gK S) j 0 kk s 0 = 3 := q
      have e : g_up2 (gK S) j 0 kk s 1 = gK S s 1 := g_up2_n _ _ (Or.inr (by decide))
      have hne : s ≠ j := fun e => by rw [e, g_up2_s] at q; omega
      rw [g_up2_n _ _ (Or.inl hne)] at q
      have h1 := hJ.1 s hs q
      show g_up2 (gK S) j 0 kk s 1 < gG S 0 ∧ gN S (g_up2 (gK S) j 0 kk s 1) 2 = s
      rw [e]; exact h1
    · intro n hn
      have h1 := hJ.2 n hn
      have hne : gN S n 2 ≠ j := fun e => by rw [e] at h1; omega
      show g_up2 (gK S) j 0 kk (gN S n 2) 0 = 3 ∧ g_up2 (gK S) j 0 kk (gN S n 2) 1 = n
      rw [g_up2_n _ _ (Or.inl hne), g_up2_n _ _ (Or.inl hne)]; exact h1
  · intro s hs hf
    by_cases e : s = j
    · subst e
      intro x y hx hy
      show g_cg _ (va_up (gC S) s (g_z16 (gC S s) 0) s (x * 4 + y))
      have hx : x < g_up2 (g_up2 (g_up2 (gT S) s 0 t) s 1 r) s 2 c s 1 := hx
      have hy : y < g_up2 (g_up2 (g_up2 (gT S) s 0 t) s 1 r) s 2 c s 2 := hy
      rw [g_up2_s] at hy
      rw [g_up2_n _ _ (Or.inr (by decide)), g_up2_s] at hx
      have e1 : va_up (gC S) s (g_z16 (gC S s) 0) s (x * 4 + y) = FP.dconst0 := by
        simp only [va_up, if_true, g_z16]
        rw [if_pos (by omega)]
      rw [e1]; exact g_cg0 _
    · have hf : g_up2 (gK S) j 0 kk s 0 = 1 ∨ g_up2 (gK S) j 0 kk s 0 = 2 := hf
      rw [g_up2_n _ _ (Or.inl e)] at hf
      have h1 := hg s hs hf
      have e0 : gT (gtS S j kk t r c) s = gT S s := by
        show g_up2 (g_up2 (g_up2 (gT S) j 0 t) j 1 r) j 2 c s = gT S s
        rw [g_up2_ne _ _ e, g_up2_ne _ _ e, g_up2_ne _ _ e]
      have e1 : gC (gtS S j kk t r c) s = gC S s := by
        show va_up (gC S) j _ s = gC S s
        simp only [va_up]; rw [if_neg e]
      unfold g_gd
      rw [e0, e1]; exact h1
theorem gR_table {S : gS} {T : mS} {j kk t r c : Nat} (hI : gI S) (h : gR S T) (hj : j < 20) (hk : gK S j 0 = 0) (k12 : kk = 1 ∨ kk = 2) (hr : 1 ≤ r ∧ r ≤ 4) (hc : 1 ≤ c ∧ c ≤ 4) : gR1 (gtS S j kk t r c) (mtS T j kk t r c) := by
  obtain ⟨⟨h0, h2, h3, h4, h5⟩, hf⟩ := h.to1
  refine ⟨⟨h0, h2, h3, ?_, h5⟩, ?_⟩
  · intro s hs
    show g_up2 (g_up2 (g_up2 (g_up2 (mA T) 0 j kk) 1 j t) 2 j r) 3 j c 0 s = g_up2 (gK S) j 0 kk s 0 ∧ (g_up2 (gK S) j 0 kk s 0 = 3 → g_up2 (g_up2 (g_up2 (g_up2 (mA T) 0 j kk) 1 j t) 2 j r) 3 j c 4 s = g_up2 (gK S) j 0 kk s 1)
    by_cases e : s = j
    · subst e
      simp [g_up2]
      omega
    · simp [g_up2, e]
      exact h4 s hs
  · intro s hs q
    by_cases e : s = j
    · subst e
      refine ⟨⟨?_, ?_, ?_⟩, ?_⟩
      · show g_up2 (g_up2 (g_up2 (g_up2 (mA T) 0 s kk) 1 s t) 2 s r) 3 s c 1 s = g_up2 (g_up2 (g_up2 (gT S) s 0 t) s 1 r) s 2 c s 0
        simp [g_up2]
      · show g_up2 (g_up2 (g_up2 (g_up2 (mA T) 0 s kk) 1 s t) 2 s r) 3 s c 2 s = g_up2 (g_up2 (g_up2 (gT S) s 0 t) s 1 r) s 2 c s 1
        simp [g_up2]
      · show g_up2 (g_up2 (g_up2 (g_up2 (mA T) 0 s kk) 1 s t) 2 s r) 3 s c 3 s = g_up2 (g_up2 (g_up2 (gT S) s 0 t) s 1 r) s 2 c s 2
        simp [g_up2]
      · intro x y hx hy
        have hx : x < g_up2 (g_up2 (g_up2 (gT S) s 0 t) s 1 r) s 2 c s 1 := hx
        have hy : y < g_up2 (g_up2 (g_up2 (gT S) s 0 t) s 1 r) s 2 c s 2 := hy
        simp [g_up2] at hx hy
        show (if s * 16 + 0 ≤ s * 16 + x * 4 + y ∧ s * 16 + x * 4 + y < s * 16 + 16 then FP.dconst0 else _) = va_up (gC S) s (g_z16 (gC S s) 0) s (x * 4 + y)
        rw [if_pos (by omega)]
        simp only [va_up, if_true, g_z16]
        rw [if_pos (by omega)]
    · have q : g_up2 (gK S) j 0 kk s 0 = 1 ∨ g_up2 (gK S) j 0 kk s 0 = 2 := q
      simp [g_up2, e] at q
      obtain ⟨a1, a2⟩ := hf s hs q
      have bs := hI.1.2.2.2.2.1 s hs
      refine ⟨?_, ?_⟩
      · show g_up2 (g_up2 (g_up2 (g_up2 (mA T) 0 j kk) 1 j t) 2 j r) 3 j c 1 s = g_up2 (g_up2 (g_up2 (gT S) j 0 t) j 1 r) j 2 c s 0 ∧ g_up2 (g_up2 (g_up2 (g_up2 (mA T) 0 j kk) 1 j t) 2 j r) 3 j c 2 s = g_up2 (g_up2 (g_up2 (gT S) j 0 t) j 1 r) j 2 c s 1 ∧ g_up2 (g_up2 (g_up2 (g_up2 (mA T) 0 j kk) 1 j t) 2 j r) 3 j c 3 s = g_up2 (g_up2 (g_up2 (gT S) j 0 t) j 1 r) j 2 c s 2
        simp [g_up2, e]
        exact a1
      · intro x y hx hy
        have hx : x < g_up2 (g_up2 (g_up2 (gT S) j 0 t) j 1 r) j 2 c s 1 := hx
        have hy : y < g_up2 (g_up2 (g_up2 (gT S) j 0 t) j 1 r) j 2 c s 2 := hy
        simp [g_up2, e] at hx hy
        have a3 := a2 x y hx hy
        show (if j * 16 + 0 ≤ s * 16 + x * 4 + y ∧ s * 16 + x * 4 + y < j * 16 + 16 then FP.dconst0 else mV T (s * 16 + x * 4 + y)) = va_up (gC S) j _ s (x * 4 + y)
        rw [if_neg (by have hx : x < gT S s 1 := hx; have hy : y < gT S s 2 := hy; omega)]
        simp only [va_up]
        rw [if_neg e]
        exact a3
