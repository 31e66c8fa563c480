/-! ===== run: class and model step by step ===== -/
theorem msG_id {T : mS} {k v : Nat} (h : mG T k = v) : msG T k v = T := by
  have e : va_up (mG T) k v = mG T := by
    funext a
    simp only [va_up]
    split
    · rename_i q; rw [q, h]
    · rfl
  show (va_up (mG T) k v, _) = T
  rw [e]
theorem gR.G5 {S : gS} {T : mS} (h : gR S T) (v : Nat) : gR S (msG T 5 v) := h
theorem gR_learn0 {S : gS} {T : mS} (hI : gI S) (hr : gG S 1 = 1) (h : gR S T) {n : Nat} (hn : n < gG S 0) (ho : ¬ g_ho S n) {f V F : Nat → UInt64} (hV : ∀ k, ¬ (gN S n 2 * 16 ≤ k ∧ k < gN S n 2 * 16 + 16) → V k = mV T k) (hf : g_inv (g_En S n) (gT S (gN S n 2) 2) f (gT S (gN S n 2) 1) 0) (hv : ∀ x y, x < gT S (gN S n 2) 1 → y < gT S (gN S n 2) 2 → V (gN S n 2 * 16 + x * 4 + y) = g_En S n x y) : gR (g_lrn S n 0 f) (msG (msA (msG (msW T V F 0) 5 0) 10 n 2) 2 (mG T 2 + 1)) := by
  rw [g_lrn0]
  have I1 := gI_cell hI hn ho f
  have R1 : gR (gsC S (gN S n 2) f) (msG (msW T V F 0) 5 0) := (gR_cell hI h hn ho hV).G5 0
  have c1 : mCl (gsC S (gN S n 2) f) (msG (msW T V F 0) 5 0) (gN S n 2) := by
    intro x y hx hy
    rw [gC_s, hf x y hy (Or.inl hx)]
    exact hv x y hx hy
  have R2 := gR_mark (i := 5) (v := mG T 1) I1 R1 hr (Or.inr rfl) hn ho c1 rfl
  rw [if_neg (by decide), msG_id (T := msA (msG (msW T V F 0) 5 0) 10 n 2) (k := 1) (v := mG T 1) rfl] at R2
  obtain ⟨⟨h0, h2, h3, h4, h5⟩, h6, h7, h8, h9, h10, h11⟩ := R2
  refine ⟨⟨h0, ?_, h3, h4, h5⟩, h6, h7, h8, h9, h10, h11⟩
  show mG T 2 + 1 = gG S 2 + 1
  rw [h.1.2.1]
theorem gR_learnE {S : gS} {T : mS} (hI : gI S) (h : gR S T) {n e : Nat} (hn : n < gG S 0) (ho : ¬ g_ho S n) {f V F : Nat → UInt64} (he : ¬ e = 0) (hV : ∀ k, ¬ (gN S n 2 * 16 ≤ k ∧ k < gN S n 2 * 16 + 16) → V k = mV T k) : gR (g_lrn S n e f) (msG (msG (msW T V F (m_er e)) 5 (m_er e)) 3 (mG T 3 + 1)) := by
  unfold g_lrn
  rw [if_neg he]
  have R1 : gR (gsC S (gN S n 2) f) (msG (msW T V F (m_er e)) 5 (m_er e)) := (gR_cell hI h hn ho hV).G5 _
  obtain ⟨⟨h0, h2, h3, h4, h5⟩, h6, h7, h8, h9, h10, h11⟩ := R1
  refine ⟨⟨h0, h2, ?_, h4, h5⟩, h6, h7, h8, h9, h10, h11⟩
  show mG T 3 + 1 = gG S 3 + 1
  rw [h.1.2.2.1]
theorem gI_learnE {S : gS} (hI : gI S) {n e : Nat} (hn : n < gG S 0) (ho : ¬ g_ho S n) {f : Nat → UInt64} (he : ¬ e = 0) : gI (g_lrn S n e f) := by
  unfold g_lrn
  rw [if_neg he]
  exact gI_G (gI_cell hI hn ho f) (Or.inr rfl)
theorem gRt.k3 {S0 : gS} {s : Nat} : ∀ k m S, gRt S0 s k m S → 1 ≤ m → ¬ g_thP S0 s
  | 0, m, S, h, hm => by
    rcases h with ⟨h, -⟩ | ⟨-, h, -⟩
    · omega
    · exact h
  | k + 1, m', S', h, hm => by
    obtain ⟨m, S, h1, h2, h3, -⟩ := h
    exact gRt.k3 k m S h1 h3
/-- every argument is a table, or the outcome of a node -/
theorem gI.kinds {S : gS} (hI : gI S) (hr : gG S 1 = 1) {n : Nat} (hn : n < gG S 0) {k : Nat} (hk : k < gN S n 0) : ¬ gK S (g_as S n k) 0 = 0 := by
  obtain ⟨pos, p1, p2, p3⟩ := (hI.2.2.2.2.2.2.1 hr).1
  rcases p3 n hn k hk with q | q <;> omega
theorem g_ss0_ho {S : gS} {n : Nat} (h : g_ho S n) : g_ss0 S n = 1 ∨ g_ss0 S n = 2 := by
  unfold g_ss0
  by_cases h4 : gN S n 4 = 1
  · rw [if_pos h4]; exact Or.inl rfl
  · rw [if_neg h4, if_pos (h.resolve_right h4)]; exact Or.inr rfl
theorem g_ss0_no {S : gS} {n : Nat} (h : ¬ g_ho S n) : g_ss0 S n = 0 := by
  unfold g_ss0
  rw [if_neg (fun q => h (Or.inr q)), if_neg (fun q => h (Or.inl q))]
