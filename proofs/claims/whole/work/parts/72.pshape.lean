/-! ===== types and shapes, once they are found ===== -/
theorem g_fn_of {S S' : gS} {n : Nat} (hk : gN S n 1 ≤ 18) (hu : gN S n 0 = g_ar (gN S n 1)) (e1 : gN S' n 1 = gN S n 1) (eq : gQ S' n = gQ S n) (ea : gA S' n = gA S n) (et : ∀ k, k < gN S n 0 → gT S' (g_as S n k) = gT S (g_as S n k)) : g_fn S' n = g_fn S n := by
  have h1 : ∀ k, g_as S' n k = g_as S n k := fun k => by unfold g_as; rw [ea]
  have ar := g_ar_ok' (gN S n 1) (by omega)
  unfold g_fn
  rw [h1, h1, h1]
  exact g_fn_congr hk e1 eq (et 0 (by omega)) (fun q => et 1 (by omega)) (fun q => et 2 (by omega))
theorem g_pt_row (S : gS) (j : Nat) (y : Option (Nat × Nat × Nat)) {i : Nat} (h : i ≠ j) : gT (g_pt S j y) i = gT S i := by
  funext k; exact g_pt_n S j y h k
theorem g_fn_pt {S : gS} {j n : Nat} {y : Option (Nat × Nat × Nat)} (hk : gN S n 1 ≤ 18) (hu : gN S n 0 = g_ar (gN S n 1)) (hne : ∀ k, k < gN S n 0 → g_as S n k ≠ j) : g_fn (g_pt S j y) n = g_fn S n := by
  obtain ⟨t, et⟩ := gsTT_pt S j y
  have e0 : gT (g_pt S j y) = t := by rw [et]; rfl
  refine g_fn_of hk hu (by rw [et]; rfl) (by rw [et]; rfl) (by rw [et]; rfl) (fun k q => g_pt_row S j y (hne k q))
theorem gOk.ne {S : gS} (hV : gV S) (hJ : gJ S) (h : gOk S) {n : Nat} (hn : n < gG S 0) {k : Nat} (hk : k < gN S n 0) : g_as S n k ≠ gN S n 2 := by
  obtain ⟨pos, -, -, h3⟩ := h
  intro e
  have h1 := hJ.2 n hn
  have h2 := h3 n hn k hk
  rw [e, h1.1, h1.2] at h2
  omega
theorem gOk.X {S : gS} (hV : gV S) (hJ : gJ S) (h : gOk S) : gX S := by
  obtain ⟨pos, h1, h2, h3⟩ := id h
  exact fun pl hp => ⟨(h2 pl hp).1, fun k hk => h.ne hV hJ (h2 pl hp).1 hk⟩
/-- no outcome that comes later is wanted -/
theorem gOk.later {S : gS} (hV : gV S) (hJ : gJ S) (h : gOk S) {i pl : Nat} (hi : i ≤ pl) (hp : pl < gG S 0) {k : Nat} (hk : k < gN S (gO S i) 0) : g_as S (gO S i) k ≠ gN S (gO S pl) 2 := by
  obtain ⟨pos, -, h2, h3⟩ := h
  intro e
  have h1 := hJ.2 _ (h2 pl hp).1
  have h4 := h3 _ (h2 i (by omega)).1 k hk
  rw [e, h1.1, h1.2, (h2 pl hp).2, (h2 i (by omega)).2] at h4
  omega
theorem gOk.out {S : gS} (hJ : gJ S) (h : gOk S) {i pl : Nat} (hi : i < pl) (hp : pl < gG S 0) : gN S (gO S i) 2 ≠ gN S (gO S pl) 2 := by
  obtain ⟨pos, -, h2, -⟩ := h
  intro e
  have h1 := hJ.2 _ (h2 pl hp).1
  have h3 := hJ.2 _ (h2 i (by omega)).1
  have h4 := (h2 pl hp).2
  have h5 := (h2 i (by omega)).2
  rw [e, h1.2] at h3
  rw [← h3.2, h4] at h5
  omega
def gShi (S : gS) (pl : Nat) : Prop := ∀ i, i < pl → g_fn S (gO S i) = some (gT S (gN S (gO S i) 2) 0, gT S (gN S (gO S i) 2) 1, gT S (gN S (gO S i) 2) 2)
theorem g_fx_ok {S : gS} {n a b c : Nat} (ha : gT S a 0 ≤ 1) (hk : gN S n 1 ≤ 18) : g_ok (g_fx S n a b c) := by
  have hk : gN S n 1 = 0 ∨ gN S n 1 = 1 ∨ gN S n 1 = 2 ∨ gN S n 1 = 3 ∨ gN S n 1 = 4 ∨ gN S n 1 = 5 ∨ gN S n 1 = 6 ∨ gN S n 1 = 7 ∨ gN S n 1 = 8 ∨ gN S n 1 = 9 ∨ gN S n 1 = 10 ∨ gN S n 1 = 11 ∨ gN S n 1 = 12 ∨ gN S n 1 = 13 ∨ gN S n 1 = 14 ∨ gN S n 1 = 15 ∨ gN S n 1 = 16 ∨ gN S n 1 = 17 ∨ gN S n 1 = 18 := by omega
  intro t r cc e
  have key : (t ≤ 1) ∧ ∃ t0 r0 c0, g_sh t0 r0 c0 = some (t, r, cc) := by
    rcases hk with hop | hop | hop | hop | hop | hop | hop | hop | hop | hop | hop | hop | hop | hop | hop | hop | hop | hop | hop <;> simp only [g_fx, hop] at e
    case inr.inr.inr.inr.inr.inr.inr.inl =>
      obtain ⟨h1, e⟩ := g_ite_some e
      refine ⟨?_, _, _, _, e⟩
      have := (g_tri (g_sh_eq e)).1
      rcases h1 with h1 | h1 <;> (rw [h1] at this; rw [this]; decide)
    case inr.inr.inr.inr.inr.inr.inr.inr.inr.inl =>
      obtain ⟨h1, e⟩ := g_ite_some e
      cases h9 : (if (gT S a 1 = gT S b 1 ∨ gT S a 1 = 1 ∨ gT S b 1 = 1) ∧ (gT S a 2 = gT S b 2 ∨ gT S a 2 = 1 ∨ gT S b 2 = 1) then g_sh (gT S a 0) (max (gT S a 1) (gT S b 1)) (max (gT S a 2) (gT S b 2)) else none) with
      | none => rw [h9] at e; simp only [g_f9] at e; cases e
      | some v =>
        rw [h9] at e
        simp only [g_f9] at e
        obtain ⟨h2, e⟩ := g_ite_some e
        exact ⟨by have := (g_tri (g_sh_eq e)).1; omega, _, _, _, e⟩
    all_goals
      first
      | exact ⟨by have := (g_tri (g_sh_eq e)).1; omega, _, _, _, e⟩
      | (obtain ⟨h1, e⟩ := g_ite_some e
         first
         | exact ⟨by have := (g_tri (g_sh_eq e)).1; omega, _, _, _, e⟩
         | (obtain ⟨h2, e⟩ := g_ite_some e
            first
            | exact ⟨by have := (g_tri (g_sh_eq e)).1; omega, _, _, _, e⟩
            | (obtain ⟨h3, e⟩ := g_ite_some e; exact ⟨by have := (g_tri (g_sh_eq e)).1; omega, _, _, _, e⟩))
         | (split at e
            · (obtain ⟨h2, e⟩ := g_ite_some e; exact ⟨by have := (g_tri (g_sh_eq e)).1; omega, _, _, _, e⟩)
            · (obtain ⟨h2, e⟩ := g_ite_some e; obtain ⟨h3, e⟩ := g_ite_some e; exact ⟨by have := (g_tri (g_sh_eq e)).1; omega, _, _, _, e⟩)))
      | (split at e
         · exact ⟨by have := (g_tri (g_sh_eq e)).1; omega, _, _, _, e⟩
         · (obtain ⟨h2, e⟩ := g_ite_some e; exact ⟨by have := (g_tri (g_sh_eq e)).1; omega, _, _, _, e⟩))
  obtain ⟨h1, t0, r0, c0, h2⟩ := key
  have h3 := g_tri (g_sh_eq h2)
  unfold g_sh at h2
  obtain ⟨h4, -⟩ := g_ite_some h2
  exact ⟨h1, by omega, by omega⟩
theorem g_shL_ok : ∀ d pl S, gW S → gV S → gU S → gJ S → gOk S → gShi S pl → pl + d = gG S 0 → ∀ S2, g_shL d pl S = some S2 → gShi S2 (gG S 0) ∧ gW S2 ∧ ∃ t, S2 = gsTT S t ∧ ∀ s, s < 20 → ¬ gK S s 0 = 3 → t s = gT S s
  | 0, pl, S, hW, _, _, _, _, hs, hd, S2, e => by
    cases e
    rw [← hd]
    exact ⟨hs, hW, gT S, rfl, fun _ _ _ => rfl⟩
  | d + 1, pl, S, hW, hV, hU, hJ, hO, hs, hd, S2, e => by
    have hX := hO.X hV hJ
    have hn := (hX pl (by omega)).1
    have b1 := hW.1
    have bn := hW.2.2.2.2.2 (gO S pl) (by omega)
    have hu := hU _ hn
    have ar := g_ar_ok' (gN S (gO S pl) 1) (by omega)
    simp only [g_shL] at e
    cases hv : g_fn S (gO S pl) with
    | none => rw [hv] at e; cases e
    | some v =>
      rw [hv] at e
      dsimp only at e
      have hok : g_ok (some v) := by rw [← hv]; exact g_fx_ok (hW.2.2.2.2.1 _ (hV _ hn 0 (by omega)).2).2.2.1 (by omega)
      obtain ⟨t, et⟩ := gsTT_pt S (gN S (gO S pl) 2) (some v)
      have eO : gO (g_pt S (gN S (gO S pl) 2) (some v)) = gO S := by rw [et]; rfl
      have eN : gN (g_pt S (gN S (gO S pl) 2) (some v)) = gN S := by rw [et]; rfl
      have hW1 := hW.pt (j := gN S (gO S pl) 2) hok
      have hi1 : gShi (g_pt S (gN S (gO S pl) 2) (some v)) (pl + 1) := by
        intro i hi
        rw [eO, eN]
        have hni := (hX i (by omega)).1
        have bni := hW.2.2.2.2.2 (gO S i) (by omega)
        rw [g_fn_pt (by omega) (hU _ hni).1 (fun k hk => hO.later hV hJ (by omega) (by omega) hk)]
        by_cases ei : i = pl
        · rw [ei]
          have h9 := g_pt_T S (gN S (gO S pl) 2) v
          rw [h9.1, h9.2.1, h9.2.2, hv]
        · have ne := hO.out hJ (i := i) (pl := pl) (by omega) (by omega)
          rw [g_pt_n S _ _ ne, g_pt_n S _ _ ne, g_pt_n S _ _ ne]
          exact hs i (by omega)
      have hV1 : gV (g_pt S (gN S (gO S pl) 2) (some v)) := by rw [et]; exact hV
      have hU1 : gU (g_pt S (gN S (gO S pl) 2) (some v)) := by rw [et]; exact hU
      have hJ1 : gJ (g_pt S (gN S (gO S pl) 2) (some v)) := by rw [et]; exact hJ
      have hO1 : gOk (g_pt S (gN S (gO S pl) 2) (some v)) := by rw [et]; exact hO
      have hG1 : gG (g_pt S (gN S (gO S pl) 2) (some v)) = gG S := by rw [et]; rfl
      obtain ⟨a1, a2, t2, a3, a4⟩ := g_shL_ok d (pl + 1) _ hW1 hV1 hU1 hJ1 hO1 hi1 (by rw [hG1]; omega) S2 e
      rw [hG1] at a1
      refine ⟨a1, a2, t2, by rw [a3, et]; rfl, fun s hs2 q => ?_⟩
      rw [a4 s hs2 (by rw [et]; exact q)]
      refine g_pt_row S _ _ (fun e9 => q ?_)
      rw [e9]; exact (hJ.2 _ hn).1
theorem gShi.all {S : gS} (hO : gOk S) (h : gShi S (gG S 0)) : gSh S := by
  obtain ⟨pos, h1, -, -⟩ := hO
  intro n hn
  have := h (pos n) (h1 n hn).1
  rw [(h1 n hn).2] at this
  exact this
