/-! ===== a node worked out: its outcome is as it should be ===== -/
/-- what is read of a node's arguments is there -/
def g_ath (S : gS) (n : Nat) : Prop := (¬ gN S n 1 = 17 → ∀ k, k < gN S n 0 → g_thP S (g_as S n k)) ∧ (gN S n 1 = 17 → g_thP S (g_as S n 2) ∧ (fEq (gC S (g_as S n 2) (0 * 4 + 0)) FP.dconst0 → g_thP S (g_as S n 1)) ∧ (¬ fEq (gC S (g_as S n 2) (0 * 4 + 0)) FP.dconst0 → g_thP S (g_as S n 0)))
theorem gI.arr {S : gS} (hI : gI S) {n : Nat} (hn : n < gG S 0) : n < 14 ∧ gN S n 1 ≤ 18 ∧ gN S n 2 < 20 ∧ gN S n 0 = g_ar (gN S n 1) ∧ 1 ≤ g_ar (gN S n 1) ∧ g_ar (gN S n 1) ≤ 3 ∧ ∀ k, k < gN S n 0 → g_as S n k < 20 := by
  have b1 := hI.1.1
  have bn := hI.1.2.2.2.2.2 n (by omega)
  have ar := g_ar_ok' (gN S n 1) (by omega)
  exact ⟨by omega, by omega, by omega, (hI.2.2.1 n hn).1, ar.1, ar.2, fun k hk => (hI.2.1 n hn k hk).2⟩
theorem gI.pre {S : gS} (hI : gI S) (hr : gG S 1 = 1) {n : Nat} (hn : n < gG S 0) (ha : g_ath S n) : g_pre S n := by
  obtain ⟨hO, hS⟩ := hI.2.2.2.2.2.2.1 hr
  obtain ⟨b1, b2, b3, b4, b5, b6, b7⟩ := hI.arr hn
  exact ⟨fun k hk => hO.ne hI.2.1 hI.2.2.2.1 hn hk, hS n hn, fun q k hk => (hI.2.2.2.2.2.2.2 _ (b7 k hk) (ha.1 q k hk)).B⟩
theorem gI.new {S : gS} (hI : gI S) (hr : gG S 1 = 1) {n : Nat} (hn : n < gG S 0) (ha : g_ath S n) (he : g_end S n 0) {f : Nat → UInt64} (hf : g_inv (g_En S n) (gT S (gN S n 2) 2) f (gT S (gN S n 2) 1) 0) {x y : Nat} (hx : x < gT S (gN S n 2) 1) (hy : y < gT S (gN S n 2) 2) : g_cg (gT S (gN S n 2) 0) (f (x * 4 + y)) := by
  obtain ⟨hO, hS⟩ := hI.2.2.2.2.2.2.1 hr
  obtain ⟨b1, b2, b3, b4, b5, b6, b7⟩ := hI.arr hn
  have hg := hI.2.2.2.2.2.2.2
  obtain ⟨hw, ht⟩ : g_wkn S n ∧ ¬ g_tbn S n := by
    rcases he with ⟨h1, h2, -⟩ | ⟨-, -, h3⟩ | ⟨-, h3⟩
    · exact ⟨h1, h2⟩
    · omega
    · split at h3 <;> omega
  rw [hf x y hy (Or.inl hx)]
  have bo := hI.1.2.2.2.2.1 _ b3
  refine g_el.cg (g_E_el (ro := gT S (gN S n 2) 1) (co := gT S (gN S n 2) 2) b2 (hS n hn) (hI.1.rng (b7 0 (by omega))) (fun q => hI.1.rng (b7 1 (by omega))) (fun q => hI.1.rng (b7 2 (by omega))) (fun q => hg _ (b7 0 (by omega)) (ha.1 q 0 (by omega))) (fun q q2 => hg _ (b7 1 (by omega)) (ha.1 q 1 (by omega))) (fun q => ?_) hx hy (fun q => hw.1 q x y hx hy) (fun q => hw.2 q x hx)) (fun q r => ht ⟨by omega, x, y, hx, hy, r⟩)
  have h17 : g_ar (gN S n 1) = 3 := by rw [q]; rfl
  have h1 := ha.2 q
  exact ⟨fun r => hg _ (b7 1 (by omega)) (h1.2.1 r), fun r => hg _ (b7 0 (by omega)) (h1.2.2 r)⟩
theorem g_thP_out {S : gS} (hJ : gJ S) {n : Nat} (hn : n < gG S 0) (ho : ¬ g_ho S n) {s : Nat} (h : g_thP S s) : s ≠ gN S n 2 := by
  intro e
  have h1 := hJ.2 n hn
  subst e
  rcases h with h | ⟨-, h⟩
  · omega
  · rw [h1.2] at h; exact ho h
theorem gI_cell {S : gS} (hI : gI S) {n : Nat} (hn : n < gG S 0) (ho : ¬ g_ho S n) (f : Nat → UInt64) : gI (gsC S (gN S n 2) f) := by
  obtain ⟨hW, hV, hU, hJ, h4, h5, h6, h7⟩ := hI
  refine ⟨hW, hV, hU, hJ, h4, h5, h6, fun s hs ht => ?_⟩
  have ne := g_thP_out hJ hn ho (s := s) ht
  have h1 := h7 s hs ht
  intro x y hx hy
  rw [gC_n f ne]
  exact h1 x y hx hy
theorem g_mark_N {S : gS} {n i m k : Nat} : gN (gsN S n i 1) m k = if m = n ∧ k = i then 1 else gN S m k := rfl
theorem gI_mark {S : gS} (hI : gI S) (hr : gG S 1 = 1) {n i : Nat} (hi : i = 4 ∨ i = 5) (hn : n < gG S 0) (ho : ¬ g_ho S n) (hg : g_gd S (gN S n 2)) : gI (gsN S n i 1) := by
  obtain ⟨hW, hV, hU, hJ, h4, h5, h6, h7⟩ := hI
  have b1 := hW.1
  have bn := hW.2.2.2.2.2 n (by omega)
  have e : ∀ m k, k < 4 → gN (gsN S n i 1) m k = gN S m k := fun m k hk => by rw [g_mark_N, if_neg (by omega)]
  have e2 : ∀ m, gN (gsN S n i 1) m 2 = gN S m 2 := fun m => e m 2 (by decide)
  refine ⟨gW.N hW ⟨fun _ => by omega, fun _ => by omega, fun _ => by omega, fun _ => by omega, fun _ => by omega, fun _ => by omega⟩, gV.N hV (by omega), ?_, ?_, ?_, fun q => absurd (show gG S 1 = 0 from q) (by omega), ?_, ?_⟩
  · intro m hm
    rw [e m 0 (by decide), e m 1 (by decide)]
    exact hU m hm
  · refine ⟨fun s hs q => ?_, fun m hm => ?_⟩
    · rw [e2]; exact hJ.1 s hs q
    · rw [e2]; exact hJ.2 m hm
  · intro m hm q
    have hm : m < gG S 0 := hm
    rw [g_mark_N] at q ⊢
    by_cases em : m = n
    · subst em
      have o1 : ¬ gN S m 5 = 1 := fun r => ho (Or.inl r)
      have o2 : ¬ gN S m 4 = 1 := fun r => ho (Or.inr r)
      rcases hi with rfl | rfl
      · rw [if_neg (by omega)]; omega
      · rw [if_neg (by omega)] at q; omega
    · rw [if_neg (by omega)] at q ⊢
      exact h4 m hm q
  · intro q
    obtain ⟨⟨pos, p1, p2, p3⟩, hS⟩ := h6 q
    refine ⟨⟨pos, p1, p2, fun m hm k hk => ?_⟩, fun m hm => ?_⟩
    · rw [e m 0 (by decide)] at hk
      exact p3 m hm k hk
    · have hm : m < gG S 0 := hm
      have bm := hW.2.2.2.2.2 m (by omega)
      rw [g_fn_of (S := S) (S' := gsN S n i 1) (n := m) (by omega) (hU m hm).1 (e m 1 (by decide)) rfl rfl (fun k _ => rfl), e2]
      exact hS m hm
  · intro s hs ht
    by_cases es : s = gN S n 2
    · subst es; exact hg
    · refine h7 s hs ?_
      rcases ht with ht | ⟨t1, t2⟩
      · exact Or.inl ht
      · refine Or.inr ⟨t1, ?_⟩
        have t1 : gK S s 0 = 3 := t1
        have hne : gK S s 1 ≠ n := fun r => es (by rw [← r]; exact (hJ.1 s hs t1).2.symm)
        have t2 : gN (gsN S n i 1) (gK S s 1) 5 = 1 ∨ gN (gsN S n i 1) (gK S s 1) 4 = 1 := t2
        rw [g_mark_N, g_mark_N, if_neg (by omega), if_neg (by omega)] at t2
        exact t2
theorem gI_G {S : gS} (hI : gI S) {k v : Nat} (hk : k = 2 ∨ k = 3) : gI (gsG S k v) := by
  have e0 : gG (gsG S k v) 0 = gG S 0 := by show va_up (gG S) k v 0 = _; simp only [va_up]; rw [if_neg (by omega)]
  have e1 : gG (gsG S k v) 1 = gG S 1 := by show va_up (gG S) k v 1 = _; simp only [va_up]; rw [if_neg (by omega)]
  obtain ⟨hW, hV, hU, hJ, h4, h5, h6, h7⟩ := hI
  refine ⟨gW.G hW ⟨fun _ => by omega, fun _ => by omega⟩, ?_, ?_, ⟨?_, ?_⟩, ?_, ?_, ?_, h7⟩
  · intro n hn; rw [e0] at hn; exact hV n hn
  · intro n hn; rw [e0] at hn; exact hU n hn
  · intro s hs q; rw [e0]; exact hJ.1 s hs q
  · intro n hn; rw [e0] at hn; exact hJ.2 n hn
  · intro n hn; rw [e0] at hn; exact h4 n hn
  · intro q n hn; rw [e0] at hn; rw [e1] at q; exact h5 q n hn
  · intro q; rw [e1] at q
    obtain ⟨⟨pos, p1, p2, p3⟩, hS⟩ := h6 q
    refine ⟨⟨pos, ?_, ?_, ?_⟩, ?_⟩
    · rw [e0]; exact p1
    · rw [e0]; exact p2
    · rw [e0]; exact p3
    · intro n hn; rw [e0] at hn; exact hS n hn
/-- the model's outcome of a node: its cells, now, fresh -/
def msW (T : mS) (V F : Nat → UInt64) (e : Nat) : mS := (va_up T.1 4 e, T.2.1, T.2.2.1, V, F)
theorem gR_cell {S : gS} {T : mS} (hI : gI S) (h : gR S T) {n : Nat} (hn : n < gG S 0) (ho : ¬ g_ho S n) {f V F : Nat → UInt64} {e : Nat} (hV : ∀ k, ¬ (gN S n 2 * 16 ≤ k ∧ k < gN S n 2 * 16 + 16) → V k = mV T k) : gR (gsC S (gN S n 2) f) (msW T V F e) := by
  obtain ⟨⟨h0, h2, h3, h4, h5⟩, h6, h7, h8, h9, h10, h11⟩ := h
  refine ⟨⟨h0, h2, h3, h4, h5⟩, h6, h7, h8, h9, h10, fun s hs ht => ?_⟩
  have ne := g_thP_out hI.2.2.2.1 hn ho (s := s) ht
  have h1 := h11 s hs ht
  have bs := hI.1.2.2.2.2.1 s hs
  intro x y hx hy
  have hx : x < gT S s 1 := hx
  have hy : y < gT S s 2 := hy
  rw [gC_n f ne]
  show V _ = _
  rw [hV _ (by omega)]
  exact h1 x y hx hy
theorem gR_mark {S : gS} {T : mS} (hI : gI S) (h : gR S T) (hr : gG S 1 = 1) {n i : Nat} (hi : i = 4 ∨ i = 5) (hn : n < gG S 0) (ho : ¬ g_ho S n) (hc : mCl S T (gN S n 2)) {v : Nat} (hv : v = if i = 4 then mG T 1 + 1 else mG T 1) : gR (gsN S n i 1) (msG (msA T 10 n (if i = 4 then 1 else 2)) 1 v) := by
  obtain ⟨⟨h0, h2, h3, h4, h5⟩, h6, h7, h8, h9, h10, h11⟩ := h
  have hJ := hI.2.2.2.1
  have o1 : ¬ gN S n 5 = 1 := fun r => ho (Or.inl r)
  have o2 : ¬ gN S n 4 = 1 := fun r => ho (Or.inr r)
  have bn := hI.1.2.2.2.2.2 n (hI.arr hn).1
  have e : ∀ m k, k < 4 → gN (gsN S n i 1) m k = gN S m k := fun m k hk => by rw [g_mark_N, if_neg (by omega)]
  have e' : ∀ m k, m ≠ n → gN (gsN S n i 1) m k = gN S m k := fun m k hk => by rw [g_mark_N, if_neg (by omega)]
  refine ⟨⟨h0, h2, h3, h4, fun m hm => ?_⟩, h6, ?_, fun m hm => ?_, h9, h10, fun s hs ht => ?_⟩
  · have h1 := h5 m hm
    unfold mNd at h1 ⊢
    rw [e m 1 (by decide), e m 2 (by decide)]
    exact h1
  · show v = _
    rw [hv, h7]
    show _ = g_cnt (fun m => gN (gsN S n i 1) m 4) 0 (gG S 0)
    rcases hi with rfl | rfl
    · rw [if_pos rfl, g_cnt_congr (f := fun m => gN (gsN S n 4 1) m 4) (g := va_up (fun m => gN S m 4) n 1) _ _ (fun m _ _ => by show gN (gsN S n 4 1) m 4 = 0 ↔ va_up (fun m => gN S m 4) n 1 m = 0; rw [g_mark_N]; simp [va_up])]
      rw [g_cnt_up (f := fun m => gN S m 4) _ _ (by omega) (by omega) (show gN S n 4 = 0 by omega)]
    · rw [if_neg (by omega)]
      exact g_cnt_congr _ _ (fun m _ _ => by show gN S m 4 = 0 ↔ gN (gsN S n 5 1) m 4 = 0; rw [g_mark_N, if_neg (by omega)])
  · have hm : m < gG S 0 := hm
    have h1 := h8 m hm
    show g_up2 (mA T) 10 n (if i = 4 then 1 else 2) 10 m = g_ss0 (gsN S n i 1) m
    unfold g_ss0 at h1 ⊢
    by_cases em : m = n
    · subst em
      rw [g_up2_s, g_mark_N, g_mark_N]
      rcases hi with rfl | rfl
      · simp
      · simp [o2]
    · rw [g_up2_n _ _ (Or.inr em), e' m 4 em, e' m 5 em]
      exact h1
  · by_cases es : s = gN S n 2
    · subst es; exact hc
    · refine h11 s hs ?_
      rcases ht with ht | ⟨t1, t2⟩
      · exact Or.inl ht
      · refine Or.inr ⟨t1, ?_⟩
        have t1 : gK S s 0 = 3 := t1
        have hne : gK S s 1 ≠ n := fun r => es (by rw [← r]; exact (hJ.1 s hs t1).2.symm)
        have t2 : gN (gsN S n i 1) (gK S s 1) 5 = 1 ∨ gN (gsN S n i 1) (gK S s 1) 4 = 1 := t2
        rw [g_mark_N, g_mark_N, if_neg (by omega), if_neg (by omega)] at t2
        exact t2
