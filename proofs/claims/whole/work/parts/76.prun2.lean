/-! ===== run: what it keeps to ===== -/
def gRt (S0 : gS) (s : Nat) : Nat → Nat → gS → Prop
  | 0, m, S => (m = 0 ∧ S = S0) ∨ (m = 1 ∧ ¬ g_thP S0 s ∧ S = gsP S0 0 (gK S0 s 1))
  | k + 1, m', S' => ∃ m S, gRt S0 s k m S ∧ gRv S0 s k m S ∧ 1 ≤ m ∧ ((∃ t, g_fn1 S (gP S (m - 1)) = some t ∧ m' = m + 1 ∧ S' = gsP S m (gK S t 1)) ∨ (∃ f, g_fn1 S (gP S (m - 1)) = none ∧ g_end S (gP S (m - 1)) 0 ∧ g_inv (g_En S (gP S (m - 1))) (gT S (gN S (gP S (m - 1)) 2) 2) f (gT S (gN S (gP S (m - 1)) 2) 1) 0 ∧ m' = m - 1 ∧ S' = g_lrn S (gP S (m - 1)) 0 f))
def gRn (S0 : gS) (s k m : Nat) (S : gS) : Prop := gRt S0 s k m S ∧ gRv S0 s k m S
def gBd (S0 : gS) (s e : Nat) (S' : gS) : Prop := ∃ k m S f, gRn S0 s k m S ∧ 1 ≤ m ∧ g_fn1 S (gP S (m - 1)) = none ∧ g_end S (gP S (m - 1)) e ∧ ¬ e = 0 ∧ S' = g_lrn S (gP S (m - 1)) e f
theorem gI_P {S : gS} (hI : gI S) {k v : Nat} (hv : v < 14) : gI (gsP S k v) := by
  obtain ⟨⟨w1, w2, w3, w4, w5, w6⟩, hV, hU, hJ, h4, h5, h6, h7⟩ := hI
  refine ⟨⟨w1, w2, w3, fun j => ?_, w5, w6⟩, hV, hU, hJ, h4, h5, h6, h7⟩
  show va_up (gP S) k v j < 14
  simp only [va_up]
  split
  · exact hv
  · exact w4 j
theorem g_fna_P (S : gS) (m v n : Nat) : ∀ d k, g_fna (gsP S m v) n k d = g_fna S n k d
  | 0, _ => rfl
  | d + 1, k => by
    simp only [g_fna]
    rw [g_fna_P S m v n d (k + 1)]
    rfl
theorem g_fn1_P (S : gS) (m v n : Nat) : g_fn1 (gsP S m v) n = g_fn1 S n := by
  unfold g_fn1
  rw [g_fna_P]
  rfl
theorem gRv.push {S0 S : gS} {s k m t : Nat} (h : gRv S0 s k m S) (hm : 1 ≤ m) (e : g_fn1 S (gP S (m - 1)) = some t) : gRv S0 s (k + 1) (m + 1) (gsP S m (gK S t 1)) := by
  obtain ⟨hI, hr, hg, hK, hp, hc, -⟩ := h
  obtain ⟨pos, p1, p2, p3⟩ := (hI.2.2.2.2.2.2.1 hr).1
  have b1 := hI.1.1
  obtain ⟨n1, n2, n3, n4, n5⟩ := hI.need hr p3 (hp.2.2 (m - 1) (by omega)).1 e
  have eP : ∀ i, gP (gsP S m (gK S t 1)) i = if i = m then gK S t 1 else gP S i := fun i => rfl
  refine ⟨gI_P hI (by omega), hr, hg, hK, ⟨fun _ => ?_, fun i hi => ?_, fun i hi => ?_⟩, ?_, fun q => by omega⟩
  · rw [eP, if_neg (by omega)]; exact hp.1 hm
  · rw [eP, eP, if_neg (by omega)]
    by_cases e1 : i + 1 = m
    · rw [if_pos e1]
      refine ⟨t, ?_, rfl⟩
      rw [show i = m - 1 by omega, g_fn1_P]
      exact e
    · rw [if_neg e1]
      obtain ⟨t2, e2, e3⟩ := hp.2.1 i (by omega)
      exact ⟨t2, by rw [g_fn1_P]; exact e2, e3⟩
  · rw [eP]
    split
    · exact ⟨n3, n4⟩
    · exact hp.2.2 i (by omega)
  · rcases hc with hc | hc
    · omega
    · refine Or.inr ?_
      show k + 1 + 2 * g_cnt (g_uk S) 0 (gG S 0) + 1 = _
      omega
theorem g_lrn0 (S : gS) (n : Nat) (f : Nat → UInt64) : g_lrn S n 0 f = gsG (gsN (gsC S (gN S n 2) f) n 5 1) 2 (gG S 2 + 1) := by
  unfold g_lrn; rw [if_pos rfl]
theorem gRv.learn {S0 S : gS} {s k m : Nat} {f : Nat → UInt64} (hs : s < 20) (h : gRv S0 s k m S) (hm : 1 ≤ m) (e : g_fn1 S (gP S (m - 1)) = none) (he : g_end S (gP S (m - 1)) 0) (hf : g_inv (g_En S (gP S (m - 1))) (gT S (gN S (gP S (m - 1)) 2) 2) f (gT S (gN S (gP S (m - 1)) 2) 1) 0) (hk3 : gK S s 0 ≠ 0) : gRv S0 s (k + 1) (m - 1) (g_lrn S (gP S (m - 1)) 0 f) := by
  obtain ⟨hI, hr, hg, hK, hp, hc, -⟩ := h
  obtain ⟨pos, p1, p2, p3⟩ := (hI.2.2.2.2.2.2.1 hr).1
  have hcn := hp.cnt hI hr p1 p3
  have b1 := hI.1.1
  obtain ⟨hn, ho⟩ := hp.2.2 (m - 1) (by omega)
  generalize hN : gP S (m - 1) = n at *
  rw [g_lrn0]
  have ath := g_fn1_ath e
  have hJ := hI.2.2.2.1
  have hgd : g_gd (gsC S (gN S n 2) f) (gN S n 2) := by
    intro x y hx hy
    rw [gC_s]
    exact hI.new hr hn ath he hf hx hy
  have hI' := gI_G (k := 2) (v := gG S 2 + 1) (gI_mark (i := 5) (gI_cell hI hn ho f) hr (Or.inr rfl) hn ho hgd) (Or.inl rfl)
  have eN : ∀ a b, gN (gsG (gsN (gsC S (gN S n 2) f) n 5 1) 2 (gG S 2 + 1)) a b = if a = n ∧ b = 5 then 1 else gN S a b := fun a b => rfl
  have eP : gP (gsG (gsN (gsC S (gN S n 2) f) n 5 1) 2 (gG S 2 + 1)) = gP S := rfl
  have eK : gK (gsG (gsN (gsC S (gN S n 2) f) n 5 1) 2 (gG S 2 + 1)) = gK S := rfl
  have eA : gA (gsG (gsN (gsC S (gN S n 2) f) n 5 1) 2 (gG S 2 + 1)) = gA S := rfl
  have eC : ∀ q, q ≠ gN S n 2 → gC (gsG (gsN (gsC S (gN S n 2) f) n 5 1) 2 (gG S 2 + 1)) q = gC S q := fun q hq => gC_n f hq
  have eG0 : gG (gsG (gsN (gsC S (gN S n 2) f) n 5 1) 2 (gG S 2 + 1)) 0 = gG S 0 := rfl
  have eG1 : gG (gsG (gsN (gsC S (gN S n 2) f) n 5 1) 2 (gG S 2 + 1)) 1 = gG S 1 := rfl
  have eO : gO (gsG (gsN (gsC S (gN S n 2) f) n 5 1) 2 (gG S 2 + 1)) = gO S := rfl
  generalize hX : gsG (gsN (gsC S (gN S n 2) f) n 5 1) 2 (gG S 2 + 1) = X at *
  have hoX : ∀ a, g_ho X a ↔ a = n ∨ g_ho S a := by
    intro a
    unfold g_ho
    rw [eN, eN]
    by_cases ea : a = n
    · simp [ea]
    · simp [ea]
  have thX : ∀ q, g_thP S q → g_thP X q := by
    intro q hq
    unfold g_thP at hq ⊢
    rw [eK]
    rcases hq with hq | ⟨q1, q2⟩
    · exact Or.inl hq
    · exact Or.inr ⟨q1, (hoX _).mpr (Or.inr q2)⟩
  have thN : ∀ q, gK S q 1 ≠ n → g_thP X q → g_thP S q := by
    intro q hne hq
    unfold g_thP at hq ⊢
    rw [eK] at hq
    rcases hq with hq | ⟨q1, q2⟩
    · exact Or.inl hq
    · exact Or.inr ⟨q1, ((hoX _).mp q2).resolve_left hne⟩
  -- the open nodes are apart
  have apart : ∀ i j, i < j → j < m → pos (gP S j) < pos (gP S i) := by
    intro i j hij hj
    obtain ⟨d, rfl⟩ : ∃ d, j = i + d + 1 := ⟨j - i - 1, by omega⟩
    clear hij
    induction d with
    | zero =>
      obtain ⟨t, e1, e2⟩ := hp.2.1 i hj
      have := (hI.need hr p3 (hp.2.2 i (by omega)).1 e1).2.2.2.2
      rw [e2] at this; exact this
    | succ d ih =>
      have h1 := ih (by omega)
      obtain ⟨t, e1, e2⟩ := hp.2.1 (i + d + 1) (by omega)
      have := (hI.need hr p3 (hp.2.2 (i + d + 1) (by omega)).1 e1).2.2.2.2
      rw [e2] at this
      rw [show i + (d + 1) + 1 = i + d + 1 + 1 by omega]; omega
  have ne : ∀ i, i < m - 1 → gP S i ≠ n := by
    intro i hi q
    have := apart i (m - 1) hi (by omega)
    rw [hN, q] at this; omega
  refine ⟨hI', by rw [eG1]; exact hr, by rw [eG0]; exact hg, by rw [eK]; exact hK, ⟨fun q => ?_, fun i hi => ?_, fun i hi => ?_⟩, ?_, fun q => ?_⟩
  · rw [eP, eK]; exact hp.1 (by omega)
  · obtain ⟨t, e1, e2⟩ := hp.2.1 i (by omega)
    rw [eP, eK]
    refine ⟨t, ?_, e2⟩
    have hni := (hp.2.2 i (by omega)).1
    obtain ⟨n1, n2, n3, n4, n5⟩ := hI.need hr p3 hni e1
    refine g_fn1_keep ⟨by rw [eN, if_neg (by omega)], by rw [eN, if_neg (by omega)]⟩ (by rw [eA]) thX (fun q hq => eC q (g_thP_out hJ hn ho hq)) (fun q => ?_) e1
    have h9 := thN t (by rw [e2]; exact ne (i + 1) (by omega)) q
    rcases h9 with h9 | ⟨-, h9⟩
    · omega
    · exact n4 h9
  · rw [eP, eG0]
    exact ⟨(hp.2.2 i (by omega)).1, fun q => ((hoX _).mp q).elim (ne i hi) (hp.2.2 i (by omega)).2⟩
  · refine Or.inr ?_
    rcases hc with hc | hc
    · omega
    · have h1 := p1 n hn
      have e1 : g_cnt (g_uk S) 0 (gG S 0) = g_cnt (g_uk X) 0 (gG S 0) + 1 := by
        rw [← g_cnt_up (f := g_uk X) (n := pos n) _ _ (by omega) (by omega) (by unfold g_uk; rw [eO, h1.2, if_pos ((hoX n).mpr (Or.inl rfl))])]
        refine g_cnt_congr _ _ (fun p _ hp2 => ?_)
        simp only [va_up]
        by_cases ep : p = pos n
        · rw [if_pos ep, ep]
          unfold g_uk
          rw [h1.2, if_neg ho]
        · rw [if_neg ep]
          have h2 := p2 p (by omega)
          have h3 : gO S p ≠ n := fun q => ep (by rw [← q]; exact h2.2.symm)
          unfold g_uk
          rw [eO]
          by_cases h4 : g_ho S (gO S p)
          · rw [if_pos h4, if_pos ((hoX _).mpr (Or.inr h4))]
          · rw [if_neg h4, if_neg (fun q => ((hoX _).mp q).elim h3 h4)]
      rw [eG0]
      omega
  · have hm1 : m = 1 := by omega
    have h1 := hp.1 (by omega)
    rw [hm1] at hN
    rw [show (1 - 1 : Nat) = 0 from rfl, h1] at hN
    unfold g_thP
    rw [eK]
    by_cases h3 : gK S s 0 = 3
    · exact Or.inr ⟨h3, (hoX _).mpr (Or.inl hN)⟩
    · have := hI.1.2.2.2.2.1 s hs
      exact Or.inl (by omega)
theorem gRI_ok {S0 : gS} {s : Nat} (hs : s < 20) (hk : gK S0 s 0 ≠ 0) : g_RI (gRn S0 s) (gBd S0 s) := by
  refine ⟨?_, ?_, ?_, ?_⟩
  · intro k m S h
    obtain ⟨hI, hr, hg, hK, hp, -, -⟩ := h.2
    have hle := hp.le hI hr
    have b1 := hI.1.1
    have b2 := g_cnt_le (g_uk S) 0 (gG S 0)
    refine ⟨hI.1, hI.2.1, hI.2.2.1, by omega, fun hm => ?_⟩
    obtain ⟨hn, ho⟩ := hp.2.2 (m - 1) (by omega)
    refine ⟨hn, fun q => hI.pre hr hn (g_fn1_ath q), fun t q => ?_⟩
    have h1 := hle.2 hm t q
    obtain ⟨pos, p1, p2, p3⟩ := (hI.2.2.2.2.2.2.1 hr).1
    exact ⟨(hI.need hr p3 hn q).1, by omega⟩
  · intro k m S f h hm e he hf
    exact ⟨⟨m, S, h.1, h.2, hm, Or.inr ⟨f, e, he, hf, rfl, rfl⟩⟩, h.2.learn hs hm e he hf (by rw [h.2.2.2.2.1]; exact hk)⟩
  · intro k m S f e h hm e1 he h0
    exact ⟨k, m, S, f, h, hm, e1, he, h0, rfl⟩
  · intro k m S t h hm e
    exact ⟨⟨m, S, h.1, h.2, hm, Or.inl ⟨t, e, rfl, rfl⟩⟩, h.2.push hm e⟩
theorem gRn.z0 {S : gS} {s : Nat} (hI : gI S) (hr : gG S 1 = 1) (ht : g_thP S s) : gRn S s 0 0 S :=
  ⟨Or.inl ⟨rfl, rfl⟩, hI, hr, rfl, rfl, ⟨fun q => by omega, fun i q => by omega, fun i q => by omega⟩, Or.inl ⟨rfl, rfl⟩, fun _ => ht⟩
theorem gRn.z1 {S : gS} {s : Nat} (hs : s < 20) (hk : gK S s 0 ≠ 0) (hI : gI S) (hr : gG S 1 = 1) (ht : ¬ g_thP S s) : gRn S s 0 1 (gsP S 0 (gK S s 1)) := by
  have bs := hI.1.2.2.2.2.1 s hs
  have b1 := hI.1.1
  have h3 : gK S s 0 = 3 := by
    by_cases q : gK S s 0 = 1 ∨ gK S s 0 = 2
    · exact absurd (Or.inl q) ht
    · omega
  have hj := hI.2.2.2.1.1 s hs h3
  refine ⟨Or.inr ⟨rfl, ht, rfl⟩, gI_P hI (by omega), hr, rfl, rfl, ⟨fun _ => rfl, fun i q => by omega, fun i q => ?_⟩, Or.inr ?_, fun q => by omega⟩
  · have e : i = 0 := by omega
    subst e
    show gK S s 1 < gG S 0 ∧ ¬ g_ho S (gK S s 1)
    exact ⟨hj.1, fun r => ht (Or.inr ⟨h3, r⟩)⟩
  · show 0 + 2 * g_cnt (g_uk S) 0 (gG S 0) + 1 = _
    omega
theorem gRn.end {S0 S : gS} {s k m : Nat} (h : gRn S0 s k m S) (he : 28 ≤ k ∨ m = 0) : m = 0 ∧ g_thP S s := by
  obtain ⟨hI, hr, hg, hK, hp, hc, hz⟩ := h.2
  have hle := (hp.le hI hr).1
  have b1 := hI.1.1
  have b2 := g_cnt_le (g_uk S0) 0 (gG S0 0)
  have hm : m = 0 := by
    rcases he with he | he
    · rcases hc with hc | hc <;> omega
    · exact he
  exact ⟨hm, hz hm⟩
