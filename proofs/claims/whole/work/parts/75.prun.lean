/-! ===== run: the class's steps ===== -/
/-- places whose node has no outcome -/
def g_uk (S : gS) (p : Nat) : Nat := if g_ho S (gO S p) then 0 else 1
theorem g_cnt_split (f : Nat → Nat) : ∀ (a b i : Nat), g_cnt f i (a + b) = g_cnt f i a + g_cnt f (i + a) b
  | 0, b, i => by simp only [g_cnt]; rw [show 0 + b = b by omega, show i + 0 = i by omega]; omega
  | a + 1, b, i => by
    rw [show a + 1 + b = a + b + 1 by omega]
    simp only [g_cnt]
    rw [g_cnt_split f a b (i + 1), show i + 1 + a = i + (a + 1) by omega]
    omega
/-- what is first needed is an argument that is not there -/
theorem g_fna_some {S : gS} {n : Nat} : ∀ (d k : Nat) (t : Nat), g_fna S n k d = some t → ∃ j, k ≤ j ∧ j < k + d ∧ g_as S n j = t ∧ ¬ g_thP S t ∧ ∀ i, k ≤ i → i < j → g_thP S (g_as S n i)
  | 0, _, _, h => by cases h
  | d + 1, k, t, h => by
    simp only [g_fna] at h
    by_cases q : g_isT S (g_as S n k) = true
    · rw [if_pos q] at h
      obtain ⟨j, h1, h2, h3, h4, h5⟩ := g_fna_some d (k + 1) t h
      refine ⟨j, by omega, by omega, h3, h4, fun i i1 i2 => ?_⟩
      by_cases e : i = k
      · rw [e]; exact of_decide_eq_true q
      · exact h5 i (by omega) i2
    · rw [if_neg q] at h
      cases h
      exact ⟨k, by omega, by omega, rfl, fun r => q (g_isT_y r), fun i i1 i2 => by omega⟩
theorem g_fna_of {S : gS} {n : Nat} : ∀ (d k j : Nat), k ≤ j → j < k + d → ¬ g_thP S (g_as S n j) → (∀ i, k ≤ i → i < j → g_thP S (g_as S n i)) → g_fna S n k d = some (g_as S n j)
  | 0, _, _, _, _, _, _ => by omega
  | d + 1, k, j, h1, h2, h3, h4 => by
    simp only [g_fna]
    by_cases e : j = k
    · subst e
      rw [if_neg (g_isT_n h3)]
    · rw [if_pos (g_isT_y (h4 k (by omega) (by omega)))]
      exact g_fna_of d (k + 1) j (by omega) (by omega) h3 (fun i i1 i2 => h4 i (by omega) i2)
theorem g_fna_none {S : gS} {n : Nat} : ∀ (d k : Nat), g_fna S n k d = none → ∀ i, k ≤ i → i < k + d → g_thP S (g_as S n i)
  | 0, _, _, _, _, _ => by omega
  | d + 1, k, h, i, i1, i2 => by
    simp only [g_fna] at h
    by_cases q : g_isT S (g_as S n k) = true
    · rw [if_pos q] at h
      by_cases e : i = k
      · rw [e]; exact of_decide_eq_true q
      · exact g_fna_none d (k + 1) h i (by omega) (by omega)
    · rw [if_neg q] at h; cases h
theorem g_isT_iff {S : gS} {j : Nat} : g_isT S j = true ↔ g_thP S j := decide_eq_true_iff
theorem g_fn1_some {S : gS} {n t : Nat} (h3 : gN S n 1 = 17 → gN S n 0 = 3) (h : g_fn1 S n = some t) : ∃ j, j < gN S n 0 ∧ g_as S n j = t ∧ ¬ g_thP S t := by
  unfold g_fn1 at h
  by_cases q : gN S n 1 = 17
  · rw [if_pos q] at h
    have h3 := h3 q
    unfold g_fnc at h
    by_cases q2 : g_isT S (g_as S n 2) = true
    · rw [if_pos q2] at h
      by_cases q3 : g_isT S (g_as S n (if fEq (gC S (g_as S n 2) (0 * 4 + 0)) FP.dconst0 then 1 else 0)) = true
      · rw [if_pos q3] at h; cases h
      · rw [if_neg q3] at h
        have h := Option.some.inj h
        exact ⟨_, by split <;> omega, h, fun r => q3 (by rw [h]; exact g_isT_y r)⟩
    · rw [if_neg q2] at h
      have h := Option.some.inj h
      exact ⟨2, by omega, h, fun r => q2 (by rw [h]; exact g_isT_y r)⟩
  · rw [if_neg q] at h
    obtain ⟨j, h1, h2, h4, h5, -⟩ := g_fna_some _ _ _ h
    exact ⟨j, by omega, h4, h5⟩
theorem g_fn1_ath {S : gS} {n : Nat} (h : g_fn1 S n = none) : g_ath S n := by
  unfold g_fn1 at h
  by_cases q : gN S n 1 = 17
  · rw [if_pos q] at h
    refine ⟨fun r => absurd q r, fun _ => ?_⟩
    unfold g_fnc at h
    by_cases q2 : g_isT S (g_as S n 2) = true
    · rw [if_pos q2] at h
      by_cases q3 : g_isT S (g_as S n (if fEq (gC S (g_as S n 2) (0 * 4 + 0)) FP.dconst0 then 1 else 0)) = true
      · refine ⟨g_isT_iff.mp q2, fun r => ?_, fun r => ?_⟩
        · rw [if_pos r] at q3; exact g_isT_iff.mp q3
        · rw [if_neg r] at q3; exact g_isT_iff.mp q3
      · rw [if_neg q3] at h; cases h
    · rw [if_neg q2] at h; cases h
  · rw [if_neg q] at h
    exact ⟨fun _ k hk => g_fna_none _ _ h k (by omega) (by omega), fun r => absurd r q⟩
/-- where more is there, and what was needed still is not -/
theorem g_fn1_keep {S S' : gS} {n t : Nat} (eN : gN S' n 0 = gN S n 0 ∧ gN S' n 1 = gN S n 1) (eA : gA S' n = gA S n) (hm : ∀ s, g_thP S s → g_thP S' s) (hc : ∀ s, g_thP S s → gC S' s = gC S s) (ht : ¬ g_thP S' t) (h : g_fn1 S n = some t) : g_fn1 S' n = some t := by
  have ea : ∀ k, g_as S' n k = g_as S n k := fun k => by unfold g_as; rw [eA]
  unfold g_fn1 at h ⊢
  rw [eN.2]
  by_cases q : gN S n 1 = 17
  · rw [if_pos q] at h ⊢
    unfold g_fnc at h ⊢
    rw [ea]
    by_cases q2 : g_isT S (g_as S n 2) = true
    · have q4 := g_isT_iff.mp q2
      rw [if_pos q2] at h
      rw [if_pos (g_isT_y (hm _ q4)), hc _ q4, ea]
      by_cases q3 : g_isT S (g_as S n (if fEq (gC S (g_as S n 2) (0 * 4 + 0)) FP.dconst0 then 1 else 0)) = true
      · rw [if_pos q3] at h; cases h
      · rw [if_neg q3] at h
        cases h
        rw [if_neg (g_isT_n ht)]
    · rw [if_neg q2] at h
      cases h
      rw [if_neg (g_isT_n ht)]
  · rw [if_neg q] at h ⊢
    obtain ⟨j, h1, h2, h4, h5, h6⟩ := g_fna_some _ _ _ h
    rw [eN.1, ← h4, ← ea]
    exact g_fna_of _ _ j h1 h2 (by rw [ea, h4]; exact ht) (fun i i1 i2 => by rw [ea]; exact hm _ (h6 i i1 i2))
/-- the open nodes: from the maker of s on, each the maker of what the one before needs first -/
def gPa (S : gS) (s m : Nat) : Prop := (1 ≤ m → gP S 0 = gK S s 1) ∧ (∀ i, i + 1 < m → ∃ t, g_fn1 S (gP S i) = some t ∧ gK S t 1 = gP S (i + 1)) ∧ (∀ i, i < m → gP S i < gG S 0 ∧ ¬ g_ho S (gP S i))
def gRv (S0 : gS) (s k m : Nat) (S : gS) : Prop := gI S ∧ gG S 1 = 1 ∧ gG S 0 = gG S0 0 ∧ gK S = gK S0 ∧ gPa S s m ∧ (k = 0 ∧ m = 0 ∨ k + 2 * g_cnt (g_uk S) 0 (gG S 0) + 1 = 2 * g_cnt (g_uk S0) 0 (gG S0 0) + m) ∧ (m = 0 → g_thP S s)
theorem gI.need {S : gS} (hI : gI S) (hr : gG S 1 = 1) {pos : Nat → Nat} (p3 : ∀ n, n < gG S 0 → ∀ k, k < gN S n 0 → g_fed S (g_as S n k) ∨ gK S (g_as S n k) 0 = 3 ∧ pos (gK S (g_as S n k) 1) < pos n) {n t : Nat} (hn : n < gG S 0) (h : g_fn1 S n = some t) : t < 20 ∧ gK S t 0 = 3 ∧ gK S t 1 < gG S 0 ∧ ¬ g_ho S (gK S t 1) ∧ pos (gK S t 1) < pos n := by
  obtain ⟨b1, b2, b3, b4, b5, b6, b7⟩ := hI.arr hn
  obtain ⟨j, h1, rfl, h3⟩ := g_fn1_some (fun q => by rw [b4, q]; rfl) h
  have ht := b7 j h1
  rcases p3 n hn j h1 with q | ⟨q1, q2⟩
  · exact absurd (Or.inl q) h3
  · exact ⟨ht, q1, (hI.2.2.2.1.1 _ ht q1).1, fun r => h3 (Or.inr ⟨q1, r⟩), q2⟩
theorem gPa.cnt {S : gS} {s m : Nat} (hI : gI S) (hr : gG S 1 = 1) {pos : Nat → Nat} (p1 : ∀ n, n < gG S 0 → pos n < gG S 0 ∧ gO S (pos n) = n) (p3 : ∀ n, n < gG S 0 → ∀ k, k < gN S n 0 → g_fed S (g_as S n k) ∨ gK S (g_as S n k) 0 = 3 ∧ pos (gK S (g_as S n k) 1) < pos n) (h : gPa S s m) : ∀ i, i < m → i + 1 ≤ g_cnt (g_uk S) (pos (gP S i)) (gG S 0 - pos (gP S i)) := by
  have one : ∀ i, i < m → g_cnt (g_uk S) (pos (gP S i)) (gG S 0 - pos (gP S i)) = 1 + g_cnt (g_uk S) (pos (gP S i) + 1) (gG S 0 - pos (gP S i) - 1) := by
    intro i hi
    have h1 := h.2.2 i hi
    have h2 := p1 _ h1.1
    obtain ⟨d, hd⟩ : ∃ d, gG S 0 - pos (gP S i) = d + 1 := ⟨gG S 0 - pos (gP S i) - 1, by omega⟩
    rw [hd]
    simp only [g_cnt]
    have e : g_uk S (pos (gP S i)) = 1 := by unfold g_uk; rw [h2.2, if_neg h1.2]
    rw [e, if_neg (by decide), show d + 1 - 1 = d by omega]
  intro i
  induction i with
  | zero => intro hi; rw [one 0 hi]; omega
  | succ i ih =>
    intro hi
    have h0 := ih (by omega)
    obtain ⟨t, e1, e2⟩ := h.2.1 i hi
    have h1 := h.2.2 i (by omega)
    have h2 := (hI.need hr p3 h1.1 e1).2.2.2.2
    rw [e2] at h2
    have h3 := p1 _ h1.1
    have h4 := p1 _ (h.2.2 (i + 1) hi).1
    rw [one (i + 1) hi]
    have e9 : gG S 0 - pos (gP S (i + 1)) - 1 = (pos (gP S i) - (pos (gP S (i + 1)) + 1)) + (gG S 0 - pos (gP S i)) := by omega
    rw [e9, g_cnt_split, show pos (gP S (i + 1)) + 1 + (pos (gP S i) - (pos (gP S (i + 1)) + 1)) = pos (gP S i) by omega]
    omega
theorem gPa.le {S : gS} {s m : Nat} (hI : gI S) (hr : gG S 1 = 1) (h : gPa S s m) : m ≤ g_cnt (g_uk S) 0 (gG S 0) ∧ (1 ≤ m → ∀ t, g_fn1 S (gP S (m - 1)) = some t → m + 1 ≤ g_cnt (g_uk S) 0 (gG S 0)) := by
  obtain ⟨pos, p1, p2, p3⟩ := (hI.2.2.2.2.2.2.1 hr).1
  have hc := h.cnt hI hr p1 p3
  have all : ∀ p, p ≤ gG S 0 → g_cnt (g_uk S) p (gG S 0 - p) ≤ g_cnt (g_uk S) 0 (gG S 0) := by
    intro p hp
    have e := g_cnt_split (g_uk S) p (gG S 0 - p) 0
    rw [show p + (gG S 0 - p) = gG S 0 by omega, show 0 + p = p by omega] at e
    omega
  by_cases h0 : m = 0
  · exact ⟨by omega, fun q => by omega⟩
  · have h1 := hc (m - 1) (by omega)
    have h2 := h.2.2 (m - 1) (by omega)
    have h3 := p1 _ h2.1
    have h4 := all (pos (gP S (m - 1))) (by omega)
    refine ⟨by omega, fun _ t e => ?_⟩
    obtain ⟨n1, n2, n3, n4, n5⟩ := hI.need hr p3 h2.1 e
    have h5 := p1 _ n3
    have h6 := all (pos (gK S t 1)) (by omega)
    have e9 : gG S 0 - pos (gK S t 1) = 1 + ((pos (gP S (m - 1)) - (pos (gK S t 1) + 1)) + (gG S 0 - pos (gP S (m - 1)))) := by omega
    rw [e9, g_cnt_split, g_cnt_split, show pos (gK S t 1) + 1 + (pos (gP S (m - 1)) - (pos (gK S t 1) + 1)) = pos (gP S (m - 1)) by omega] at h6
    have e : g_uk S (pos (gK S t 1)) = 1 := by unfold g_uk; rw [h5.2, if_neg n4]
    have h7 : g_cnt (g_uk S) (pos (gK S t 1)) 1 = 1 := by simp only [g_cnt]; rw [e, if_neg (by decide)]
    omega
