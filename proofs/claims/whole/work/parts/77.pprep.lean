/-! ===== prepare: class and model keep together ===== -/
theorem gR1.eqO {S S1 : gS} {T : mS} (h : gR1 S T) (q : g_eqO S S1) : gR1 S1 T := by
  obtain ⟨⟨h0, h2, h3, h4, h5⟩, hf⟩ := h
  obtain ⟨q1, q2, q3, q4, q5, q6, q7, q8⟩ := q
  refine ⟨⟨by rw [q1]; exact h0, by rw [q1]; exact h2, by rw [q1]; exact h3, by rw [q3]; exact h4, fun n hn => ?_⟩, fun s hs r => ?_⟩
  · rw [q1] at hn
    have := h5 n hn
    unfold mNd at this ⊢
    rw [q6 n 1 (by decide), q6 n 2 (by decide), q7, q8]
    exact this
  · have r : g_fed S s := by unfold g_fed at r ⊢; rw [q3] at r; exact r
    have := hf s hs r
    unfold mTb mCl at this ⊢
    rw [q4, q5]
    exact this
theorem gI1.eqO {S S1 : gS} (h : gI1 S) (q : g_eqO S S1) (hW : gW S1) : gI1 S1 := by
  obtain ⟨-, hV, hU, hJ, hg⟩ := h
  refine ⟨hW, q.V hV, q.U hU, q.J hJ, fun s hs r => ?_⟩
  have r : g_fed S s := by unfold g_fed at r ⊢; rw [q.2.2.1] at r; exact r
  unfold g_gd
  rw [q.2.2.2.1, q.2.2.2.2.1]
  exact hg s hs r
/-- other tables of outcomes -/
theorem gI1.TT {S : gS} {t : Nat → Nat → Nat} (h : gI1 S) (hW : gW (gsTT S t)) (ht : ∀ s, s < 20 → ¬ gK S s 0 = 3 → t s = gT S s) : gI1 (gsTT S t) := by
  obtain ⟨-, hV, hU, hJ, hg⟩ := h
  refine ⟨hW, hV, hU, hJ, fun s hs r => ?_⟩
  have r : g_fed S s := r
  have e : gT (gsTT S t) s = gT S s := ht s hs (by omega)
  unfold g_gd
  rw [e]
  exact hg s hs r
theorem gR1.TT {S : gS} {T : mS} {t : Nat → Nat → Nat} (h : gR1 S T) (ht : ∀ s, s < 20 → ¬ gK S s 0 = 3 → t s = gT S s) : gR1 (gsTT S t) T := by
  obtain ⟨⟨h0, h2, h3, h4, h5⟩, hf⟩ := h
  refine ⟨⟨h0, h2, h3, h4, h5⟩, fun s hs r => ?_⟩
  have r : g_fed S s := r
  have e : gT (gsTT S t) s = gT S s := ht s hs (by omega)
  have := hf s hs r
  unfold mTb mCl at this ⊢
  rw [e]
  exact this
/-- the model: its order, and tables of outcomes, have changed -/
def mqP (S : gS) (T T' : mS) : Prop := (∀ k, k ≠ 4 → k ≠ 5 → mG T' k = mG T k) ∧ (∀ a b, a ≠ 11 → ¬ ((a = 1 ∨ a = 2 ∨ a = 3) ∧ ∃ n, n < gG S 0 ∧ b = gN S n 2) → mA T' a b = mA T a b) ∧ mQ T' = mQ T ∧ mV T' = mV T
theorem mqP.rf (S : gS) (T : mS) : mqP S T T := ⟨fun _ _ _ => rfl, fun _ _ _ _ => rfl, rfl, rfl⟩
theorem mqP.tr {S : gS} {A B C : mS} (h : mqP S A B) (k : mqP S B C) : mqP S A C := ⟨fun j h1 h2 => (k.1 j h1 h2).trans (h.1 j h1 h2), fun a b h1 h2 => (k.2.1 a b h1 h2).trans (h.2.1 a b h1 h2), k.2.2.1.trans h.2.2.1, k.2.2.2.trans h.2.2.2⟩
theorem gR1.mq {S : gS} {T T' : mS} (hJ : gJ S) (h : gR1 S T) (q : mqP S T T') : gR1 S T' := by
  obtain ⟨⟨h0, h2, h3, h4, h5⟩, hf⟩ := h
  obtain ⟨q1, q2, q3, q4⟩ := q
  refine ⟨⟨by rw [q1 0 (by decide) (by decide)]; exact h0, by rw [q1 2 (by decide) (by decide)]; exact h2, by rw [q1 3 (by decide) (by decide)]; exact h3, fun s hs => ?_, fun n hn => ?_⟩, fun s hs r => ?_⟩
  · rw [q2 0 s (by decide) (by omega), q2 4 s (by decide) (by omega)]
    exact h4 s hs
  · have := h5 n hn
    unfold mNd at this ⊢
    rw [q2 6 n (by decide) (by omega), q2 7 n (by decide) (by omega), q3]
    exact this
  · have ne : ∀ a, ¬ ((a = 1 ∨ a = 2 ∨ a = 3) ∧ ∃ n, n < gG S 0 ∧ s = gN S n 2) := by
      rintro a ⟨-, n, hn, rfl⟩
      have := (hJ.2 n hn).1
      omega
    have := hf s hs r
    unfold mTb mCl at this ⊢
    rw [q2 1 s (by decide) (ne 1), q2 2 s (by decide) (ne 2), q2 3 s (by decide) (ne 3), q4]
    exact this
/-- prepare threw -/
theorem gR_thrown {S : gS} {T T' : mS} (hI : gI S) (hr : gG S 1 = 0) (h : gR1 S T) (q : mqP S T T') (t6 : mG T 6 = 0) (t1 : mG T 1 = 0) (t10 : ∀ n, n < gG S 0 → mA T 10 n = 0) : gR S T' := by
  refine gR_un (h.mq hI.2.2.2.1 q) hI.2.2.2.1 hr (hI.2.2.2.2.2.1 hr) (by rw [q.1 6 (by decide) (by decide)]; exact t6) (by rw [q.1 1 (by decide) (by decide)]; exact t1) (fun n hn => ?_)
  rw [q.2.1 10 n (by decide) (by omega)]
  exact t10 n hn
/-- all is ready to be folded -/
theorem gR_ready {S : gS} {T : mS} (hJ : gJ S) (h : gR1 S T) (hf : ∀ n, n < gG S 0 → gN S n 4 = 0 ∧ gN S n 5 = 0) (ho : ∀ k, k < gG S 0 → mA T 11 k = gO S k) (ht : ∀ n, n < gG S 0 → mTb S T (gN S n 2)) (t1 : mG T 1 = 0) (t10 : ∀ n, n < gG S 0 → mA T 10 n = 0) : gR (gRy S) (msG T 6 1) := by
  obtain ⟨⟨h0, h2, h3, h4, h5⟩, hfd⟩ := h
  refine ⟨⟨h0, h2, h3, h4, h5⟩, rfl, ?_, fun n hn => ?_, fun s hs r => ?_, fun _ => ho, fun s hs r => (hfd s hs (g_thP_un (S := S) hJ hf hs r)).2⟩
  · show mG T 1 = _
    rw [t1, g_cnt_0]
    intro k _ hk
    exact (hf k (show k < gG S 0 by have hk : k < 0 + gG S 0 := hk; omega)).1
  · have := hf n hn
    show mA T 10 n = g_ss0 S n
    rw [t10 n hn]
    unfold g_ss0
    rw [if_neg (by omega), if_neg (by omega)]
  · rcases r with r | ⟨r, -⟩
    · exact (hfd s hs r).1
    · have r : gK S s 0 = 3 := r
      have h1 := hJ.1 s hs r
      have := ht _ h1.1
      rw [h1.2] at this
      exact this
