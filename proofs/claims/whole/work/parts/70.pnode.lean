/-! ===== node and undo: class and model keep together ===== -/
/-- what node makes, by its fields -/
theorem gI_node {S S' : gS} {k j : Nat} {a b c p q : Int32} (h : gI S) (hW' : gW S') (hk : k < 19) (hj : j < 20) (ha : gSl a ∧ (g_ar k < 2 ∧ b = -1 ∨ ¬ g_ar k < 2 ∧ gSl b) ∧ (g_ar k < 3 ∧ c = -1 ∨ ¬ g_ar k < 3 ∧ gSl c)) (hf : gK S j 0 = 0) (hp : ¬ p < -8 ∧ ¬ 8 < p) (hq : ¬ q < -8 ∧ ¬ 8 < q)
    (eG : gG S' 0 = gG S 0 + 1) (eK : ∀ s i, gK S' s i = if s = j ∧ i = 0 then 3 else if s = j ∧ i = 1 then gG S 0 else gK S s i) (eT : gT S' = gT S) (eC : gC S' = gC S) (eN : ∀ m, m ≠ gG S 0 → gN S' m = gN S m) (eNn : gN S' (gG S 0) 0 = g_ar k ∧ gN S' (gG S 0) 1 = k ∧ gN S' (gG S 0) 2 = j) (eQ : ∀ m, m ≠ gG S 0 → gQ S' m = gQ S m) (eQn : gQ S' (gG S 0) 0 = p ∧ gQ S' (gG S 0) 1 = q) (eA : ∀ m, m ≠ gG S 0 → gA S' m = gA S m) (eAn : gA S' (gG S 0) 0 = a ∧ gA S' (gG S 0) 1 = b ∧ gA S' (gG S 0) 2 = c) : gI1 S' := by
  obtain ⟨hW, hV, hU, hJ, hg⟩ := h.to1
  have sl : ∀ x : Int32, gSl x → x = nI x.toNatClampNeg ∧ x.toNatClampNeg < 20 := by
    intro x hx
    obtain ⟨z, hz, rfl⟩ := nI_of hx.1
    rw [nI_clamp hz]
    refine ⟨rfl, ?_⟩
    exact Decidable.byContradiction fun r => hx.2 ((nI_leI (a := 20) (b := z) (by omega) hz).mpr (by omega))
  have ar := g_ar_ok' k hk
  refine ⟨hW', ?_, ?_, ⟨?_, ?_⟩, ?_⟩
  · intro n hn i hi
    by_cases e : n = gG S 0
    · subst e
      rw [eNn.1] at hi
      have hi3 : i = 0 ∨ i = 1 ∨ i = 2 := by omega
      unfold g_as
      rcases hi3 with rfl | rfl | rfl
      · rw [eAn.1]; exact sl a ha.1
      · rw [eAn.2.1]; exact sl b (ha.2.1.elim (fun r => by omega) (fun r => r.2))
      · rw [eAn.2.2]; exact sl c (ha.2.2.elim (fun r => by omega) (fun r => r.2))
    · unfold g_as
      rw [eN n e] at hi
      rw [eA n e]
      exact hV n (by omega) i hi
  · intro n hn
    by_cases e : n = gG S 0
    · subst e
      rw [eNn.1, eNn.2.1, eQn.1, eQn.2]
      exact ⟨rfl, hp, hq⟩
    · rw [eN n e, eQ n e]
      exact hU n (by omega)
  · intro s hs r
    rw [eK] at r
    rw [eK]
    by_cases e : s = j
    · subst e
      simp
      exact ⟨by omega, eNn.2.2⟩
    · simp only [e, false_and, if_false] at r ⊢
      have h1 := hJ.1 s hs r
      rw [eN _ (by omega)]
      exact ⟨by omega, h1.2⟩
  · intro n hn
    by_cases e : n = gG S 0
    · subst e
      rw [eNn.2.2, eK, eK]
      simp
    · have h1 := hJ.2 n (by omega)
      rw [eN n e, eK, eK]
      have hne : gN S n 2 ≠ j := fun r => by rw [r] at h1; omega
      simp only [hne, false_and, if_false]
      exact h1
  · intro s hs r
    have hne : s ≠ j := fun e => by subst e; rcases r with r | r <;> (rw [eK] at r; simp at r)
    have r : g_fed S s := by
      rcases r with r | r <;> (rw [eK] at r; simp only [hne, false_and, if_false] at r)
      · exact Or.inl r
      · exact Or.inr r
    unfold g_gd
    rw [eT, eC]
    exact hg s hs r
theorem gR_node {S S' : gS} {T T' : mS} {k j : Nat} {a b c p q : Int32} (hI : gI S) (h : gR S T) (hf : gK S j 0 = 0)
    (eG : gG S' 0 = gG S 0 + 1) (eG2 : gG S' 2 = gG S 2 ∧ gG S' 3 = gG S 3) (eK : ∀ s i, gK S' s i = if s = j ∧ i = 0 then 3 else if s = j ∧ i = 1 then gG S 0 else gK S s i) (eT : gT S' = gT S) (eC : gC S' = gC S) (eN : ∀ m, m ≠ gG S 0 → gN S' m = gN S m) (eNn : gN S' (gG S 0) 0 = g_ar k ∧ gN S' (gG S 0) 1 = k ∧ gN S' (gG S 0) 2 = j) (eQ : ∀ m, m ≠ gG S 0 → gQ S' m = gQ S m) (eQn : gQ S' (gG S 0) 0 = p ∧ gQ S' (gG S 0) 1 = q) (eA : ∀ m, m ≠ gG S 0 → gA S' m = gA S m) (eAn : gA S' (gG S 0) 0 = a ∧ gA S' (gG S 0) 1 = b ∧ gA S' (gG S 0) 2 = c)
    (tG : mG T' 0 = mG T 0 + 1) (tG2 : mG T' 2 = mG T 2 ∧ mG T' 3 = mG T 3) (tA : ∀ i s, mA T' i s = if i = 0 ∧ s = j then 3 else if i = 4 ∧ s = j then mG T 0 else if i = 6 ∧ s = mG T 0 then k else if i = 7 ∧ s = mG T 0 then j else mA T i s) (tV : mV T' = mV T) (tQ : ∀ i s, mQ T' i s = if i = 8 ∧ s = mG T 0 then p else if i = 9 ∧ s = mG T 0 then q else if i = 12 ∧ s = mG T 0 * 3 then a else if i = 12 ∧ s = mG T 0 * 3 + 1 then b else if i = 12 ∧ s = mG T 0 * 3 + 2 then c else mQ T i s) : gR1 S' T' := by
  obtain ⟨⟨h0, h2, h3, h4, h5⟩, hfd⟩ := h.to1
  refine ⟨⟨by omega, by omega, by omega, ?_, ?_⟩, ?_⟩
  · intro s hs
    rw [tA, tA, eK, eK]
    have h1 := h4 s hs
    by_cases e : s = j
    · subst e; simp; exact h0
    · simp [e]; exact h1
  · intro n hn
    unfold mNd
    by_cases e : n = gG S 0
    · subst e
      rw [eNn.2.1, eNn.2.2, eQn.1, eQn.2, eAn.1, eAn.2.1, eAn.2.2]
      simp only [tA, tQ, h0]
      simp
    · have h1 := h5 n (by omega)
      unfold mNd at h1
      rw [eN n e, eQ n e, eA n e]
      simp only [tA, tQ, h0]
      simp [e]
      rw [if_neg (by omega), if_neg (by omega), if_neg (by omega), if_neg (by omega), if_neg (by omega), if_neg (by omega), if_neg (by omega), if_neg (by omega), if_neg (by omega)]
      exact h1
  · intro s hs r
    have hne : s ≠ j := fun e => by subst e; rcases r with r | r <;> (rw [eK] at r; simp at r)
    have r : g_fed S s := by
      rcases r with r | r <;> (rw [eK] at r; simp only [hne, false_and, if_false] at r)
      · exact Or.inl r
      · exact Or.inr r
    have h1 := hfd s hs r
    unfold mTb mCl at h1 ⊢
    rw [eT, eC, tV]
    simp only [tA]
    simp
    exact h1
theorem gI_undo {S : gS} (h : gI S) (hn0 : 0 < gG S 0) : gI (gsK (gsG (g_unp S) 0 (gG S 0 - 1)) (gN S (gG S 0 - 1) 2) 0 0) := by
  obtain ⟨hW, hV, hU, hJ, hg⟩ := h.to1
  have hu := gI_unp h.to1
  have b1 := hW.1
  have hl := hJ.2 (gG S 0 - 1) (by omega)
  have eN4 : ∀ n, n < gG S 0 → gN (g_unp S) n 4 = 0 ∧ gN (g_unp S) n 5 = 0 := hu.2.2.2.2.2.1 rfl
  refine gI_un ⟨?_, ?_, ?_, ⟨?_, ?_⟩, ?_⟩ rfl ?_
  · exact gW.K (gW.G hu.1 ⟨fun _ => by omega, fun r => by omega⟩) ⟨fun _ => by omega, fun r => by omega⟩
  · intro n hn
    exact hu.2.1 n (show n < gG S 0 by have hn : n < gG S 0 - 1 := hn; omega)
  · intro n hn
    exact hU n (show n < gG S 0 by have hn : n < gG S 0 - 1 := hn; omega)
  · intro s hs r
    have r : g_up2 (gK S) (gN S (gG S 0 - 1) 2) 0 0 s 0 = 3 := r
    show g_up2 (gK S) (gN S (gG S 0 - 1) 2) 0 0 s 1 < gG S 0 - 1 ∧ gN S (g_up2 (gK S) (gN S (gG S 0 - 1) 2) 0 0 s 1) 2 = s
    by_cases e : s = gN S (gG S 0 - 1) 2
    · rw [← e, g_up2_s] at r; omega
    · rw [g_up2_n _ _ (Or.inl e)] at r ⊢
      have h1 := hJ.1 s hs r
      refine ⟨?_, h1.2⟩
      have : gK S s 1 ≠ gG S 0 - 1 := fun q => e (by rw [← q, h1.2])
      omega
  · intro n hn
    have hn : n < gG S 0 - 1 := hn
    have h1 := hJ.2 n (by omega)
    show g_up2 (gK S) (gN S (gG S 0 - 1) 2) 0 0 (gN S n 2) 0 = 3 ∧ g_up2 (gK S) (gN S (gG S 0 - 1) 2) 0 0 (gN S n 2) 1 = n
    have e : gN S n 2 ≠ gN S (gG S 0 - 1) 2 := fun q => by rw [q] at h1; omega
    rw [g_up2_n _ _ (Or.inl e), g_up2_n _ _ (Or.inl e)]
    exact h1
  · intro s hs r
    have r : g_up2 (gK S) (gN S (gG S 0 - 1) 2) 0 0 s 0 = 1 ∨ g_up2 (gK S) (gN S (gG S 0 - 1) 2) 0 0 s 0 = 2 := r
    have e : s ≠ gN S (gG S 0 - 1) 2 := fun e => by rw [← e, g_up2_s] at r; omega
    rw [g_up2_n _ _ (Or.inl e)] at r
    exact hg s hs r
  · intro n hn
    exact eN4 n (show n < gG S 0 by have hn : n < gG S 0 - 1 := hn; omega)
theorem gR_undo {S : gS} {T : mS} (hI : gI S) (h : gR S T) (hn0 : 0 < gG S 0) (hU : gI (gsK (gsG (g_unp S) 0 (gG S 0 - 1)) (gN S (gG S 0 - 1) 2) 0 0)) : gR (gsK (gsG (g_unp S) 0 (gG S 0 - 1)) (gN S (gG S 0 - 1) 2) 0 0) (mChg (msA (msG (msG T 5 0) 0 (gG S 0 - 1)) 0 (gN S (gG S 0 - 1) 2) 0)) := by
  obtain ⟨⟨h0, h2, h3, h4, h5⟩, hfd⟩ := h.to1
  have b1 := hI.1.1
  refine gR_un ⟨⟨rfl, h2, h3, ?_, ?_⟩, ?_⟩ hU.2.2.2.1 rfl (hU.2.2.2.2.2.1 rfl) rfl rfl ?_
  · intro s hs
    have h1 := h4 s hs
    show g_up2 (mA T) 0 (gN S (gG S 0 - 1) 2) 0 0 s = g_up2 (gK S) (gN S (gG S 0 - 1) 2) 0 0 s 0 ∧ (g_up2 (gK S) (gN S (gG S 0 - 1) 2) 0 0 s 0 = 3 → g_up2 (mA T) 0 (gN S (gG S 0 - 1) 2) 0 4 s = g_up2 (gK S) (gN S (gG S 0 - 1) 2) 0 0 s 1)
    by_cases e : s = gN S (gG S 0 - 1) 2
    · rw [← e]; simp [g_up2]
    · simp [g_up2, e]; exact h1
  · intro n hn
    exact h5 n (show n < gG S 0 by have hn : n < gG S 0 - 1 := hn; omega)
  · intro s hs r
    have r : g_up2 (gK S) (gN S (gG S 0 - 1) 2) 0 0 s 0 = 1 ∨ g_up2 (gK S) (gN S (gG S 0 - 1) 2) 0 0 s 0 = 2 := r
    have e : s ≠ gN S (gG S 0 - 1) 2 := fun e => by rw [← e, g_up2_s] at r; omega
    rw [g_up2_n _ _ (Or.inl e)] at r
    exact hfd s hs r
  · intro n hn
    have hn : n < gG S 0 - 1 := hn
    show (if (10 : Nat) = 10 ∧ 0 ≤ n ∧ n < 14 then 0 else _) = 0
    rw [if_pos ⟨rfl, by omega, by omega⟩]
