/-! ===== the order, once it is found ===== -/
/-- all but the order and its marks is as it was -/
def g_eqO (S S1 : gS) : Prop := gG S1 = gG S ∧ gP S1 = gP S ∧ gK S1 = gK S ∧ gT S1 = gT S ∧ gC S1 = gC S ∧ (∀ n i, i ≠ 3 → gN S1 n i = gN S n i) ∧ gQ S1 = gQ S ∧ gA S1 = gA S
theorem g_eqO.rf (S : gS) : g_eqO S S := ⟨rfl, rfl, rfl, rfl, rfl, fun _ _ _ => rfl, rfl, rfl⟩
theorem g_eqO.tr {A B C : gS} (h : g_eqO A B) (k : g_eqO B C) : g_eqO A C := ⟨k.1.trans h.1, k.2.1.trans h.2.1, k.2.2.1.trans h.2.2.1, k.2.2.2.1.trans h.2.2.2.1, k.2.2.2.2.1.trans h.2.2.2.2.1, fun n i hi => (k.2.2.2.2.2.1 n i hi).trans (h.2.2.2.2.2.1 n i hi), k.2.2.2.2.2.2.1.trans h.2.2.2.2.2.2.1, k.2.2.2.2.2.2.2.trans h.2.2.2.2.2.2.2⟩
theorem g_eqO.st (S : gS) (pl n : Nat) : g_eqO S (gsN (gsO S pl n) n 3 1) := ⟨rfl, rfl, rfl, rfl, rfl, fun m i hi => g_up2_n _ _ (Or.inr hi), rfl, rfl⟩
theorem g_eqO.clr (S : gS) (i e : Nat) : g_eqO S (g_clrN S 3 i e) := ⟨rfl, rfl, rfl, rfl, rfl, fun m k hk => by show (if k = 3 ∧ _ then 0 else gN S m k) = gN S m k; rw [if_neg (fun q => hk q.1)], rfl, rfl⟩
theorem g_ordL_eq (nc : Nat) : ∀ d pl S, g_eqO S (g_ordL nc d pl S).2
  | 0, _, S => g_eqO.rf S
  | d + 1, pl, S => by
    simp only [g_ordL]
    cases g_least (g_canO S) 0 nc with
    | none => exact g_eqO.rf S
    | some n => exact (g_eqO.st S pl n).tr (g_ordL_eq nc d (pl + 1) _)
theorem g_ordL_W {nc : Nat} (h14 : nc ≤ 14) : ∀ d pl S, gW S → gW (g_ordL nc d pl S).2
  | 0, _, _, hW => hW
  | d + 1, pl, S, hW => by
    simp only [g_ordL]
    cases e : g_least (g_canO S) 0 nc with
    | none => exact hW
    | some n =>
      have := g_least_lt _ _ _ _ e
      exact g_ordL_W h14 d (pl + 1) _ (gW.N (gW.O hW (by omega)) ⟨fun _ => by omega, fun _ => by omega, fun _ => by omega, fun _ => by omega, fun _ => by omega, fun _ => by omega⟩)
theorem g_eqO.as {S S1 : gS} (h : g_eqO S S1) (n k : Nat) : g_as S1 n k = g_as S n k := by unfold g_as; rw [h.2.2.2.2.2.2.2]
theorem g_eqO.V {S S1 : gS} (h : g_eqO S S1) (hV : gV S) : gV S1 := by
  intro n hn k hk
  rw [h.1] at hn
  rw [h.2.2.2.2.2.1 n 0 (by decide)] at hk
  rw [h.as, h.2.2.2.2.2.2.2]
  exact hV n hn k hk
theorem g_eqO.U {S S1 : gS} (h : g_eqO S S1) (hU : gU S) : gU S1 := by
  intro n hn
  rw [h.1] at hn
  rw [h.2.2.2.2.2.1 n 0 (by decide), h.2.2.2.2.2.1 n 1 (by decide), h.2.2.2.2.2.2.1]
  exact hU n hn
theorem g_eqO.J {S S1 : gS} (h : g_eqO S S1) (hJ : gJ S) : gJ S1 := by
  constructor
  · intro s hs q
    rw [h.2.2.1] at q ⊢
    rw [h.1, h.2.2.2.2.2.1 _ 2 (by decide)]
    exact hJ.1 s hs q
  · intro n hn
    rw [h.1] at hn
    rw [h.2.2.1, h.2.2.2.2.2.1 _ 2 (by decide)]
    exact hJ.2 n hn
theorem g_allF_at {p : Nat → Bool} : ∀ (d i : Nat), g_allF p i d = true → ∀ k, i ≤ k → k < i + d → p k = true
  | 0, _, _, _, _, _ => by omega
  | d + 1, i, h, k, h1, h2 => by
    simp only [g_allF, Bool.and_eq_true] at h
    by_cases e : k = i
    · rw [e]; exact h.1
    · exact g_allF_at d (i + 1) h.2 k (by omega) (by omega)
theorem g_allF_of {p : Nat → Bool} : ∀ (d i : Nat), (∀ k, i ≤ k → k < i + d → p k = true) → g_allF p i d = true
  | 0, _, _ => rfl
  | d + 1, i, h => by
    simp only [g_allF, Bool.and_eq_true]
    exact ⟨h i (by omega) (by omega), g_allF_of d (i + 1) (fun k h1 h2 => h k (by omega) (by omega))⟩
theorem g_least_q {q : Nat → Bool} : ∀ d i n, g_least q i d = some n → q n = true
  | 0, _, _, h => by cases h
  | d + 1, i, n, h => by
    simp only [g_least] at h
    split at h
    · cases h; assumption
    · exact g_least_q d (i + 1) n h
theorem g_cnt_up {f : Nat → Nat} {n : Nat} : ∀ (d i : Nat), i ≤ n → n < i + d → f n = 0 → g_cnt (va_up f n 1) i d = g_cnt f i d + 1
  | 0, _, _, _, _ => by omega
  | d + 1, i, h1, h2, h3 => by
    simp only [g_cnt]
    by_cases e : i = n
    · subst e
      rw [g_cnt_congr (f := va_up f i 1) (g := f) d (i + 1) (fun k q1 _ => by simp only [va_up]; rw [if_neg (by omega)])]
      simp only [va_up, if_true]
      rw [if_neg (by omega), if_pos h3]
      omega
    · rw [g_cnt_up d (i + 1) (by omega) (by omega) h3]
      have e2 : va_up f n 1 i = f i := by simp only [va_up]; rw [if_neg e]
      simp only [e2]
      omega
theorem g_cnt_all {f : Nat → Nat} : ∀ (d i : Nat), g_cnt f i d = d → ∀ k, i ≤ k → k < i + d → ¬ f k = 0
  | 0, _, _, _, _, _ => by omega
  | d + 1, i, h, k, h1, h2 => by
    have hl := g_cnt_le f (i + 1) d
    simp only [g_cnt] at h
    by_cases e0 : f i = 0
    · rw [if_pos e0] at h; omega
    · rw [if_neg e0] at h
      by_cases e : k = i
      · rw [e]; exact e0
      · exact g_cnt_all d (i + 1) (by omega) k (by omega) (by omega)
/-- so far, pl nodes are in order -/
def gOi (S : gS) (pl : Nat) : Prop := (∀ i, i < pl → gO S i < gG S 0) ∧ (∀ n, n < gG S 0 → gN S n 3 = 1 → ∃ i, i < pl ∧ gO S i = n) ∧ g_cnt (fun n => gN S n 3) 0 (gG S 0) = pl ∧ (∀ i, i < pl → gN S (gO S i) 3 = 1) ∧ (∀ i, i < pl → ∀ k, k < gN S (gO S i) 0 → g_fed S (g_as S (gO S i) k) ∨ gK S (g_as S (gO S i) k) 0 = 3 ∧ ∃ j, j < i ∧ gO S j = gK S (g_as S (gO S i) k) 1) ∧ (∀ i j, i < pl → j < pl → gO S i = gO S j → i = j)
theorem gOi.st {S : gS} {pl n : Nat} (hV : gV S) (hJ : gJ S) (h : gOi S pl) (e : g_least (g_canO S) 0 (gG S 0) = some n) : gOi (gsN (gsO S pl n) n 3 1) (pl + 1) := by
  obtain ⟨h1, h2, h3, h4, h5, h6⟩ := h
  have hn := g_least_lt _ _ _ _ e
  have hc := g_least_q _ _ _ e
  simp only [g_canO, Bool.and_eq_true, decide_eq_true_eq] at hc
  have eO : ∀ i, gO (gsN (gsO S pl n) n 3 1) i = if i = pl then n else gO S i := fun i => rfl
  have eN3 : ∀ m, gN (gsN (gsO S pl n) n 3 1) m 3 = if m = n then 1 else gN S m 3 := fun m => by
    show g_up2 (gN S) n 3 1 m 3 = _
    simp [g_up2]
  have q := g_eqO.st S pl n
  have ltO : ∀ i, i < pl → ¬ i = pl := fun i hi => by omega
  have ne : ∀ i, i < pl → gO S i ≠ n := fun i hi r => by have := h4 i hi; rw [r] at this; omega
  refine ⟨?_, ?_, ?_, ?_, ?_, ?_⟩
  · intro i hi
    rw [eO, q.1]
    split
    · omega
    · exact h1 i (by omega)
  · intro m hm hm3
    rw [eN3] at hm3
    by_cases em : m = n
    · exact ⟨pl, by omega, by rw [eO, if_pos rfl, em]⟩
    · rw [if_neg em] at hm3
      obtain ⟨i, hi, ei⟩ := h2 m hm hm3
      exact ⟨i, by omega, by rw [eO, if_neg (ltO i hi)]; exact ei⟩
  · rw [q.1]
    rw [g_cnt_congr (g := va_up (fun m => gN S m 3) n 1) _ _ (fun m _ _ => by show gN (gsN (gsO S pl n) n 3 1) m 3 = 0 ↔ va_up (fun m => gN S m 3) n 1 m = 0; rw [eN3]; simp only [va_up])]
    rw [g_cnt_up (f := fun m => gN S m 3) _ _ (by omega) (by omega) hc.1, h3]
  · intro i hi
    rw [eO, eN3]
    by_cases ei : i = pl
    · rw [if_pos ei, if_pos rfl]
    · rw [if_neg ei, if_neg (ne i (by omega))]
      exact h4 i (by omega)
  · intro i hi k hk
    rw [q.2.2.2.2.2.1 _ 0 (by decide)] at hk
    rw [q.as, show g_fed (gsN (gsO S pl n) n 3 1) = g_fed S from rfl, q.2.2.1]
    rw [eO] at hk ⊢
    by_cases ei : i = pl
    · rw [if_pos ei] at hk ⊢
      have ha := g_allF_at _ _ hc.2 k (by omega) (by omega)
      simp only [g_isO, decide_eq_true_eq] at ha
      rcases ha with ha | ⟨ha, hb⟩
      · exact Or.inl ha
      · refine Or.inr ⟨ha, ?_⟩
        obtain ⟨j, hj, ej⟩ := h2 _ (hJ.1 _ (hV n (by omega) k hk).2 ha).1 hb
        exact ⟨j, by omega, by rw [eO, if_neg (ltO j hj)]; exact ej⟩
    · rw [if_neg ei] at hk ⊢
      rcases h5 i (by omega) k hk with ha | ⟨ha, j, hj, ej⟩
      · exact Or.inl ha
      · exact Or.inr ⟨ha, j, hj, by rw [eO, if_neg (ltO j (by omega))]; exact ej⟩
  · intro i j hi hj
    rw [eO, eO]
    by_cases ei : i = pl
    · by_cases ej : j = pl
      · intro _; omega
      · rw [if_pos ei, if_neg ej]; intro r; exact absurd r.symm (ne j (by omega))
    · by_cases ej : j = pl
      · rw [if_neg ei, if_pos ej]; intro r; exact absurd r (ne i (by omega))
      · rw [if_neg ei, if_neg ej]; exact h6 i j (by omega) (by omega)
theorem gOi.all : ∀ d pl S, gV S → gJ S → gOi S pl → (g_ordL (gG S 0) d pl S).1 = true → gOi (g_ordL (gG S 0) d pl S).2 (pl + d)
  | 0, _, _, _, _, h, _ => h
  | d + 1, pl, S, hV, hJ, h, ht => by
    simp only [g_ordL] at ht ⊢
    cases e : g_least (g_canO S) 0 (gG S 0) with
    | none => rw [e] at ht; cases ht
    | some n =>
      rw [e] at ht
      have q := g_eqO.st S pl n
      have := gOi.all d (pl + 1) (gsN (gsO S pl n) n 3 1) (q.V hV) (q.J hJ) (h.st hV hJ e) ht
      rw [show pl + (d + 1) = pl + 1 + d by omega]
      exact this
theorem gOi.ok {S : gS} (hW : gW S) (h : gOi S (gG S 0)) : gOk S := by
  have b1 := hW.1
  obtain ⟨h1, h2, h3, h4, h5, h6⟩ := h
  have ha := g_cnt_all _ _ h3
  have hp : ∀ n, ∃ p, n < gG S 0 → p < gG S 0 ∧ gO S p = n := by
    intro n
    by_cases hn : n < gG S 0
    · by_cases h9 : gN S n 3 = 1
      · obtain ⟨i, hi, ei⟩ := h2 n hn h9
        exact ⟨i, fun _ => ⟨hi, ei⟩⟩
      · have b2 := hW.2.2.2.2.2 n (by omega)
        exact absurd (show gN S n 3 = 0 by omega) (ha n (by omega) (by omega))
    · exact ⟨0, fun q => absurd q hn⟩
  obtain ⟨pos, hpos⟩ := Classical.axiomOfChoice hp
  have hinv : ∀ k, k < gG S 0 → pos (gO S k) = k := fun k hk => h6 _ _ (hpos _ (h1 k hk)).1 hk (hpos _ (h1 k hk)).2
  refine ⟨pos, hpos, fun k hk => ⟨h1 k hk, hinv k hk⟩, fun n hn k hk => ?_⟩
  have hq := hpos n hn
  have h7 := h5 (pos n) hq.1 k (by rw [hq.2]; exact hk)
  rw [hq.2] at h7
  rcases h7 with h7 | ⟨h7, j, hj, ej⟩
  · exact Or.inl h7
  · refine Or.inr ⟨h7, ?_⟩
    rw [← ej, hinv j (by omega)]
    exact hj
