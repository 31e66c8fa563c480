/-! ===== the model's work: what its loop keeps to ===== -/
def g_okE (S : gS) (n i j : Nat) : Prop := (gN S n 1 = 3 → ¬ fEq (g_ag S (g_as S n 1) i j) FP.dconst0) ∧ (gN S n 1 = 15 → g_inR S (g_as S n 0) (g_as S n 1) i)
def g_bd (S : gS) (n i j : Nat) : Prop := ¬ g_okE S n i j ∨ (gT S (gN S n 2) 0 = 0 ∧ g_big (g_En S n i j))
def m_tv (S : gS) (n : Nat) : Nat := if gN S n 1 = 15 then 4 else 3
def m_er (e : Nat) : Nat := if e = 0 then 0 else e + 2
/-- what the model reads of a node is the same -/
def mEl (S : gS) (T : mS) (n : Nat) : Prop := mNd S T n ∧ (∀ k, k < gN S n 0 → mTb S T (g_as S n k)) ∧ (¬ gN S n 1 = 17 → ∀ k, k < gN S n 0 → mCl S T (g_as S n k)) ∧ (gN S n 1 = 17 → mCl S T (g_as S n 2) ∧ (fEq (gC S (g_as S n 2) (0 * 4 + 0)) FP.dconst0 → mCl S T (g_as S n 1)) ∧ (¬ fEq (gC S (g_as S n 2) (0 * 4 + 0)) FP.dconst0 → mCl S T (g_as S n 0)))
theorem gR.el {S : gS} {T : mS} (hI : gI S) (hr : gG S 1 = 1) (h : gR S T) {n : Nat} (hn : n < gG S 0) (ha : g_ath S n) : mEl S T n ∧ mTb S T (gN S n 2) := by
  obtain ⟨b1, b2, b3, b4, b5, b6, b7⟩ := hI.arr hn
  obtain ⟨⟨h0, h2, h3, h4, h5⟩, h6, h7, h8, h9, h10, h11⟩ := h
  obtain ⟨pos, p1, p2, p3⟩ := (hI.2.2.2.2.2.2.1 hr).1
  refine ⟨⟨h5 n hn, fun k hk => ?_, fun q k hk => h11 _ (b7 k hk) (ha.1 q k hk), fun q => ?_⟩, h9 _ b3 (Or.inr ⟨(hI.2.2.2.1.2 n hn).1, hr⟩)⟩
  · rcases p3 n hn k hk with q | q
    · exact h9 _ (b7 k hk) (Or.inl q)
    · exact h9 _ (b7 k hk) (Or.inr ⟨q.1, hr⟩)
  · have h17 : g_ar (gN S n 1) = 3 := by rw [q]; rfl
    have a1 := ha.2 q
    exact ⟨h11 _ (b7 2 (by omega)) a1.1, fun r => h11 _ (b7 1 (by omega)) (a1.2.1 r), fun r => h11 _ (b7 0 (by omega)) (a1.2.2 r)⟩
/-- a pick is never too large -/
theorem gI.pick {S : gS} (hI : gI S) (hr : gG S 1 = 1) {n : Nat} (hn : n < gG S 0) (ha : g_ath S n) (hop : gN S n 1 = 15) {x y : Nat} (hx : x < gT S (gN S n 2) 1) (hy : y < gT S (gN S n 2) 2) (ho : g_okE S n x y) : ¬ (gT S (gN S n 2) 0 = 0 ∧ g_big (g_En S n x y)) := by
  obtain ⟨b1, b2, b3, b4, b5, b6, b7⟩ := hI.arr hn
  have hs := (hI.2.2.2.2.2.2.1 hr).2 n hn
  have h15 : g_ar (gN S n 1) = 2 := by rw [hop]; rfl
  unfold g_fn at hs
  simp only [g_fx, hop] at hs
  obtain ⟨h1, hs⟩ := g_ite_some hs
  obtain ⟨z0, z1, z2⟩ := g_tri (g_sh_eq hs)
  have ra := hI.1.rng (b7 0 (by omega))
  have hg := hI.2.2.2.2.2.2.2 _ (b7 0 (by omega)) (ha.1 (by omega) 0 (by omega))
  rintro ⟨q1, q2⟩
  have h2 := hg _ y (g_inR_lt ra (ho.2 hop)) (by omega)
  refine (h2.2 (by omega)).2 ?_
  have e : g_En S n x y = gC S (g_as S n 0) (iN (g_rw (gT S (g_as S n 0) 1) (FP.d2i (gC S (g_as S n 1) (0 * 4 + x)))) * 4 + y) := by
    simp only [g_En, g_E, hop]
  rw [← e]; exact q2
def m_iv (S : gS) (n : Nat) (F : Nat → UInt64) (v i j : Nat) : Prop := (∀ x y, y < gT S (gN S n 2) 2 → (x < i ∨ x = i ∧ y < j) → g_okE S n x y → F (x * 4 + y) = g_En S n x y) ∧ (v = 0 ∧ (∀ x y, y < gT S (gN S n 2) 2 → (x < i ∨ x = i ∧ y < j) → ¬ g_bd S n x y) ∨ v = m_tv S n ∧ ∃ x y, x < gT S (gN S n 2) 1 ∧ y < gT S (gN S n 2) 2 ∧ g_bd S n x y)
theorem m_iv.le {S : gS} {n v i j : Nat} {F : Nat → UInt64} (h : m_iv S n F v i j) : v ≤ 4 := by
  rcases h.2 with ⟨q, -⟩ | ⟨q, -⟩
  · omega
  · rw [q]; unfold m_tv; split <;> omega
theorem m_iv.z {S : gS} {n : Nat} {F : Nat → UInt64} : m_iv S n F 0 0 0 := ⟨fun x y _ q => by omega, Or.inl ⟨rfl, fun x y _ q => by omega⟩⟩
theorem m_iv.row {S : gS} {n v i : Nat} {F : Nat → UInt64} (h : m_iv S n F v i (gT S (gN S n 2) 2)) : m_iv S n F v (i + 1) 0 := by
  refine ⟨fun x y hy q => h.1 x y hy (by omega), ?_⟩
  rcases h.2 with ⟨q, r⟩ | q
  · exact Or.inl ⟨q, fun x y hy z => r x y hy (by omega)⟩
  · exact Or.inr q
theorem m_iv.step {S : gS} {n v v2 i j : Nat} {F : Nat → UInt64} {a : UInt64} (h : m_iv S n F v i j) (hc : gT S (gN S n 2) 2 ≤ 4) (hi : i < gT S (gN S n 2) 1) (hj : j < gT S (gN S n 2) 2) (ha : g_okE S n i j → a = g_En S n i j) (hv : ¬ g_bd S n i j ∧ v2 = v ∨ g_bd S n i j ∧ v2 = if v = 0 then m_tv S n else v) : m_iv S n (va_up F (i * 4 + j) a) v2 i (j + 1) := by
  refine ⟨fun x y hy q ok => ?_, ?_⟩
  · simp only [va_up]
    by_cases e : x = i ∧ y = j
    · rw [e.1, e.2, if_pos rfl]
      exact ha (by rw [e.1, e.2] at ok; exact ok)
    · rw [if_neg (by omega)]
      exact h.1 x y hy (by omega) ok
  · rcases hv with ⟨hb, rfl⟩ | ⟨hb, rfl⟩
    · rcases h.2 with ⟨q, r⟩ | q
      · refine Or.inl ⟨q, fun x y hy z => ?_⟩
        by_cases e : x = i ∧ y = j
        · rw [e.1, e.2]; exact hb
        · exact r x y hy (by omega)
      · exact Or.inr q
    · refine Or.inr ⟨?_, i, j, hi, hj, hb⟩
      rcases h.2 with ⟨q, -⟩ | ⟨q, -⟩
      · rw [if_pos q]
      · by_cases e : v = 0
        · rw [if_pos e]
        · rw [if_neg e]; exact q
/-- how the work ends, by now -/
theorem m_iv.end {S : gS} {n v : Nat} {F : Nat → UInt64} (hI : gI S) (hr : gG S 1 = 1) (hn : n < gG S 0) (ha : g_ath S n) (h : m_iv S n F v (gT S (gN S n 2) 1) 0) : ∃ e, g_end S n e ∧ v = m_er e ∧ (e = 0 → ∀ x y, x < gT S (gN S n 2) 1 → y < gT S (gN S n 2) 2 → F (x * 4 + y) = g_En S n x y) := by
  have wk : (∀ x y, x < gT S (gN S n 2) 1 → y < gT S (gN S n 2) 2 → g_okE S n x y) ↔ g_wkn S n := by
    have bo := hI.1.2.2.2.2.1 _ (hI.arr hn).2.2.1
    constructor
    · intro q
      exact ⟨fun r x y hx hy => (q x y hx hy).1 r, fun r x hx => (q x 0 hx (by omega)).2 r⟩
    · intro q x y hx hy
      exact ⟨fun r => q.1 r x y hx hy, fun r => q.2 r x hx⟩
  rcases h.2 with ⟨rfl, q⟩ | ⟨rfl, x, y, hx, hy, hb⟩
  · have q2 : ∀ x y, x < gT S (gN S n 2) 1 → y < gT S (gN S n 2) 2 → ¬ g_bd S n x y := fun x y hx hy => q x y hy (Or.inl hx)
    have ok : ∀ x y, x < gT S (gN S n 2) 1 → y < gT S (gN S n 2) 2 → g_okE S n x y := fun x y hx hy => Classical.byContradiction fun r => q2 x y hx hy (Or.inl r)
    refine ⟨0, Or.inl ⟨wk.mp ok, ?_, rfl⟩, rfl, fun _ x y hx hy => h.1 x y hy (Or.inl hx) (ok x y hx hy)⟩
    rintro ⟨t0, x, y, hx, hy, hb⟩
    exact q2 x y hx hy (Or.inr ⟨t0, hb⟩)
  · by_cases w : g_wkn S n
    · have okxy := wk.mpr w x y hx hy
      have big := hb.resolve_left (fun r => r okxy)
      have n15 : ¬ gN S n 1 = 15 := fun r => hI.pick hr hn ha r hx hy okxy big
      refine ⟨1, Or.inr (Or.inl ⟨w, ⟨big.1, x, y, hx, hy, big.2⟩, rfl⟩), ?_, fun q => by omega⟩
      unfold m_tv; rw [if_neg n15]; rfl
    · refine ⟨_, Or.inr (Or.inr ⟨w, rfl⟩), ?_, fun q => by split at q <;> omega⟩
      by_cases h3 : gN S n 1 = 3
      · rw [if_pos h3]; unfold m_tv; rw [if_neg (by omega)]; rfl
      · rw [if_neg h3]
        have h15 : gN S n 1 = 15 := Classical.byContradiction fun r => w ⟨fun z => absurd z h3, fun z => absurd z r⟩
        unfold m_tv; rw [if_pos h15]; rfl
/-- the outcome laid into the model -/
def m_cp (T : mS) (o9 : Nat) (F : Nat → UInt64) (k : Nat) : Nat → UInt64 := fun q => if o9 * 16 ≤ q ∧ q < o9 * 16 + k then F (q - o9 * 16) else mV T q
theorem m_cp_0 (T : mS) (o9 : Nat) (F : Nat → UInt64) : m_cp T o9 F 0 = mV T := by funext q; unfold m_cp; rw [if_neg (by omega)]
theorem m_cp_s (T : mS) (o9 : Nat) (F : Nat → UInt64) (k : Nat) : va_up (m_cp T o9 F k) (o9 * 16 + k) (F k) = m_cp T o9 F (k + 1) := by
  funext q
  simp only [va_up, m_cp]
  by_cases e : q = o9 * 16 + k
  · rw [if_pos e, if_pos (by omega), e, show o9 * 16 + k - o9 * 16 = k by omega]
  · rw [if_neg e]
    by_cases e2 : o9 * 16 ≤ q ∧ q < o9 * 16 + k
    · rw [if_pos e2, if_pos (by omega)]
    · rw [if_neg e2, if_neg (by omega)]
/-! ===== shapes and folds: class and model step by step ===== -/
def m_gv (T : mS) (o9 t r c : Nat) : mS := msA (msA (msA T 1 o9 t) 2 o9 r) 3 o9 c
def gSR (S : gS) (T : mS) (pl : Nat) : Prop := gR1 S T ∧ (∀ k, k < gG S 0 → mA T 11 k = gO S k) ∧ (∀ i, i < pl → mTb S T (gN S (gO S i) 2))
theorem gSR.args {S : gS} {T : mS} {pl : Nat} (h : gSR S T pl) (hV : gV S) (hJ : gJ S) (hO : gOk S) (hp : pl < gG S 0) {k : Nat} (hk : k < gN S (gO S pl) 0) : mTb S T (g_as S (gO S pl) k) := by
  obtain ⟨pos, p1, p2, p3⟩ := hO
  have hn := (p2 pl hp).1
  have ha := (hV _ hn k hk).2
  rcases p3 _ hn k hk with q | ⟨q1, q2⟩
  · exact (h.1.2 _ ha q).1
  · have hj := hJ.1 _ ha q1
    have h1 := p1 _ hj.1
    rw [(p2 pl hp).2] at q2
    have := h.2.2 (pos (gK S (g_as S (gO S pl) k) 1)) q2
    rw [h1.2, hj.2] at this
    exact this
theorem m_gv_A (T : mS) (o9 t r c a b : Nat) : mA (m_gv T o9 t r c) a b = if a = 3 ∧ b = o9 then c else if a = 2 ∧ b = o9 then r else if a = 1 ∧ b = o9 then t else mA T a b := rfl
theorem gSR.step {S : gS} {T : mS} {pl : Nat} (h : gSR S T pl) (hJ : gJ S) (hO : gOk S) (hp : pl < gG S 0) (v : Nat × Nat × Nat) : gSR (g_pt S (gN S (gO S pl) 2) (some v)) (m_gv T (gN S (gO S pl) 2) v.1 v.2.1 v.2.2) (pl + 1) := by
  have hn : gO S pl < gG S 0 := by obtain ⟨pos, -, p2, -⟩ := hO; exact (p2 pl hp).1
  have hK := (hJ.2 _ hn).1
  obtain ⟨t, et⟩ := gsTT_pt S (gN S (gO S pl) 2) (some v)
  have eT := g_pt_T S (gN S (gO S pl) 2) v
  have eR : ∀ s, s ≠ gN S (gO S pl) 2 → gT (g_pt S (gN S (gO S pl) 2) (some v)) s = gT S s := fun s q => g_pt_row S _ _ q
  have hout : ∀ i, i < pl → gN S (gO S i) 2 ≠ gN S (gO S pl) 2 := fun i hi => hO.out hJ hi hp
  obtain ⟨⟨⟨h0, h2, h3, h4, h5⟩, hf⟩, ho, ht⟩ := h
  have eC : gC (g_pt S (gN S (gO S pl) 2) (some v)) = gC S := by rw [et]; rfl
  generalize hO9 : gN S (gO S pl) 2 = o9 at *
  have hmA : ∀ a b, (a ≠ 1 ∧ a ≠ 2 ∧ a ≠ 3) ∨ b ≠ o9 → mA (m_gv T o9 v.1 v.2.1 v.2.2) a b = mA T a b := fun a b q => by
    rw [m_gv_A, if_neg (by omega), if_neg (by omega), if_neg (by omega)]
  have tb : ∀ s, s ≠ o9 → mTb S T s → mTb (g_pt S o9 (some v)) (m_gv T o9 v.1 v.2.1 v.2.2) s := fun s q r => by
    unfold mTb at r ⊢
    rw [hmA 1 s (Or.inr q), hmA 2 s (Or.inr q), hmA 3 s (Or.inr q), eR s q]
    exact r
  refine ⟨⟨⟨?_, ?_, ?_, ?_, ?_⟩, ?_⟩, ?_, ?_⟩
  · rw [et]; exact h0
  · rw [et]; exact h2
  · rw [et]; exact h3
  · intro s hs
    rw [hmA 0 s (Or.inl ⟨by decide, by decide, by decide⟩), hmA 4 s (Or.inl ⟨by decide, by decide, by decide⟩), et]
    exact h4 s hs
  · intro n hn
    rw [et] at hn
    have := h5 n hn
    unfold mNd at this ⊢
    rw [hmA 6 n (Or.inl ⟨by decide, by decide, by decide⟩), hmA 7 n (Or.inl ⟨by decide, by decide, by decide⟩), et]
    exact this
  · intro s hs r
    have r : g_fed S s := by unfold g_fed at r ⊢; rw [et] at r; exact r
    have ne : s ≠ o9 := fun e => by rw [e] at r; omega
    have := hf s hs r
    refine ⟨tb s ne this.1, ?_⟩
    have c := this.2
    unfold mCl at c ⊢
    rw [eR s ne, eC]
    exact c
  · intro k hk
    rw [et] at hk ⊢
    rw [hmA 11 k (Or.inl ⟨by decide, by decide, by decide⟩)]
    exact ho k hk
  · intro i hi
    have e1 : gN (g_pt S o9 (some v)) (gO (g_pt S o9 (some v)) i) 2 = gN S (gO S i) 2 := by rw [et]; rfl
    rw [e1]
    by_cases ei : i = pl
    · rw [ei, hO9]
      unfold mTb
      rw [eT.1, eT.2.1, eT.2.2]
      simp [m_gv_A]
    · exact tb _ (hout i (by omega)) (ht i (by omega))
theorem m_gv_mq {S : gS} {T : mS} {n : Nat} (hn : n < gG S 0) (t r c : Nat) : mqP S T (m_gv T (gN S n 2) t r c) := by
  refine ⟨fun _ _ _ => rfl, fun a b h1 h2 => ?_, rfl, rfl⟩
  rw [m_gv_A, if_neg (fun q => h2 ⟨by omega, n, hn, q.2⟩), if_neg (fun q => h2 ⟨by omega, n, hn, q.2⟩), if_neg (fun q => h2 ⟨by omega, n, hn, q.2⟩)]
theorem g_end_u {S : gS} {n e e' : Nat} (h : g_end S n e) (h' : g_end S n e') : e = e' := by
  rcases h with ⟨a1, a2, a3⟩ | ⟨a1, a2, a3⟩ | ⟨a1, a2⟩ <;> rcases h' with ⟨b1, b2, b3⟩ | ⟨b1, b2, b3⟩ | ⟨b1, b2⟩
  · omega
  · exact absurd b2 a2
  · exact absurd a1 b1
  · exact absurd a2 b2
  · omega
  · exact absurd a1 b1
  · exact absurd b1 a1
  · exact absurd b1 a1
  · rw [a2, b2]
def gFR (S : gS) (T : mS) (x : Int32) : Prop := gR (gRy S) (msG T 6 1) ∧ mG T 5 = 0 ∧ ∀ m, m < gG S 0 → (gN S m 4 = 1 ↔ ¬ mBt x m = 0)
theorem gFI.of {S0 : gS} {nc : Nat} (h0 : gFI S0 nc 0 S0) : ∀ pl S, pl ≤ nc → g_tr S0 pl S → gFI S0 nc pl S
  | 0, S, _, h => by cases h; exact h0
  | pl + 1, S, hp, h => by
    obtain ⟨S1, h1, h2⟩ := h
    exact (gFI.of h0 pl S1 (by omega) h1).step (by omega) h2
theorem gFI.facts {S0 S : gS} {nc pl : Nat} (hp : pl < nc) (h : gFI S0 nc pl S) : gI (gRy S) ∧ gO S pl < gG S 0 ∧ ¬ g_ho (gRy S) (gO S pl) ∧ gN S (gO S pl) 4 = 0 := by
  obtain ⟨-, hI, hg, hr, h4, h5, hW⟩ := h
  have hO := (hI.2.2.2.2.2.2.1 rfl).1
  have hX := hO.X hI.2.1 hI.2.2.2.1
  have hn : gO S pl < gG S 0 := (hX pl (show pl < gG S 0 by omega)).1
  have f4 := h4 pl (by omega) hp
  have f5 := h5 (gO S pl) (by omega)
  refine ⟨hI, hn, fun q => ?_, f4⟩
  rcases q with q | q
  · have q : gN S (gO S pl) 5 = 1 := q; omega
  · have q : gN S (gO S pl) 4 = 1 := q; omega
theorem gFR.cell {S : gS} {T : mS} {x : Int32} (hI : gI (gRy S)) (h : gFR S T x) {n : Nat} (hn : n < gG S 0) (ho : ¬ g_ho (gRy S) n) {f V F : Nat → UInt64} {e : Nat} (hV : ∀ k, ¬ (gN S n 2 * 16 ≤ k ∧ k < gN S n 2 * 16 + 16) → V k = mV T k) : gFR (gsC S (gN S n 2) f) (msW T V F e) x := by
  refine ⟨?_, h.2.1, h.2.2⟩
  have e9 : msG (msW T V F e) 6 1 = msW (msG T 6 1) V F e := by
    have e8 : va_up (va_up T.1 4 e) 6 1 = va_up (va_up T.1 6 1) 4 e := by
      funext k; simp only [va_up]
      by_cases q : k = 6
      · rw [if_pos q, if_neg (by omega), if_pos q]
      · rw [if_neg q, if_neg q]
    show (va_up (va_up T.1 4 e) 6 1, _, _, _, _) = _
    rw [e8]; rfl
  rw [e9]
  exact gR_cell hI h.1 hn ho hV
theorem gFR.mark {S : gS} {T : mS} {x : Int32} (hI : gI (gRy S)) (h : gFR S T x) {n : Nat} (hn : n < gG S 0) (ho : ¬ g_ho (gRy S) n) (hc : mCl S T (gN S n 2)) : gFR (gsN S n 4 1) (msG (msA T 10 n 1) 1 (mG T 1 + 1)) (x ||| (1 <<< (nI n &&& 31))) := by
  have b1 : gG S 0 ≤ 14 := hI.1.1
  refine ⟨?_, h.2.1, fun m hm => ?_⟩
  · have e9 : msG (msG (msA T 10 n 1) 1 (mG T 1 + 1)) 6 1 = msG (msA (msG T 6 1) 10 n 1) 1 (mG T 1 + 1) := by
      have e8 : va_up (va_up T.1 1 (mG T 1 + 1)) 6 1 = va_up (va_up T.1 6 1) 1 (mG T 1 + 1) := by
        funext k; simp only [va_up]
        by_cases q : k = 6
        · rw [if_pos q, if_neg (by omega), if_pos q]
        · rw [if_neg q, if_neg q]
      show (va_up (va_up T.1 1 (mG T 1 + 1)) 6 1, _, _) = _
      rw [e8]; rfl
    rw [e9]
    have := gR_mark (i := 4) (n := n) (v := mG T 1 + 1) hI h.1 rfl (Or.inl rfl) hn ho hc rfl
    rw [if_pos rfl] at this
    exact this
  · have hm : m < gG S 0 := hm
    rw [mBt_or (by omega) (by omega), g_mark_N]
    by_cases e : m = n
    · rw [if_pos ⟨e, rfl⟩]
      exact ⟨fun _ q => q.2 e, fun _ => rfl⟩
    · rw [if_neg (fun q => e q.1), h.2.2 m hm]
      exact ⟨fun q r => q r.1, fun q r => q ⟨r, e⟩⟩
