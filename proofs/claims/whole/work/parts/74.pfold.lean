/-! ===== what is folded: the class's steps ===== -/
def g_tr (S0 : gS) : Nat → gS → Prop
  | 0, S => S = S0
  | pl + 1, S' => ∃ S, g_tr S0 pl S ∧ g_fst S (gO S pl) S'
abbrev gRy (S : gS) : gS := gsG S 1 1
def gFI (S0 : gS) (nc pl : Nat) (S : gS) : Prop := g_tr S0 pl S ∧ gI (gRy S) ∧ gG S 0 = nc ∧ gG S 1 = 0 ∧ (∀ i, pl ≤ i → i < nc → gN S (gO S i) 4 = 0) ∧ (∀ n, n < nc → gN S n 5 = 0) ∧ gW S
theorem g_argC_ath {S : gS} (hI : gI S) {n : Nat} (hn : n < gG S 0) (h : g_argC S n = true) : g_ath S n := by
  have key : ∀ k, k < gN S n 0 → g_thP S (g_as S n k) := by
    intro k hk
    have ha := g_allF_at _ _ h k (by omega) (by omega)
    simp only [g_isC, decide_eq_true_eq] at ha
    rcases ha with ha | ⟨ha, hb⟩
    · exact Or.inl (Or.inr ha)
    · exact Or.inr ⟨ha, Or.inr hb⟩
  refine ⟨fun _ k hk => key k hk, fun q => ?_⟩
  obtain ⟨b1, b2, b3, b4, b5, b6, b7⟩ := hI.arr hn
  have h17 : g_ar (gN S n 1) = 3 := by rw [q]; rfl
  exact ⟨key 2 (by omega), fun _ => key 1 (by omega), fun _ => key 0 (by omega)⟩
theorem g_gsN_id {S : gS} {n i v : Nat} (h : gN S n i = v) : gsN S n i v = S := by
  have e : g_up2 (gN S) n i v = gN S := by
    funext a b
    simp only [g_up2]
    split
    · rename_i q; rw [q.1, q.2, h]
    · rfl
  show (_, _, _, _, _, _, g_up2 (gN S) n i v, _) = S
  rw [e]
theorem gFI.hI {S0 : gS} {nc pl : Nat} {S : gS} (hp : pl < nc) (h : gFI S0 nc pl S) : gV S ∧ gU S ∧ gO S pl < nc ∧ (g_argC S (gO S pl) = true → g_pre S (gO S pl)) := by
  obtain ⟨-, hI, hg, -, h4, h5, -⟩ := h
  have hO := (hI.2.2.2.2.2.2.1 rfl).1
  have hX := hO.X hI.2.1 hI.2.2.2.1
  have hn : gO S pl < gG S 0 := (hX pl (show pl < gG S 0 by omega)).1
  exact ⟨hI.2.1, hI.2.2.1, by omega, fun q => hI.pre rfl hn (g_argC_ath hI hn q)⟩
theorem gFI.step {S0 : gS} {nc pl : Nat} {S S2 : gS} (hp : pl < nc) (h : gFI S0 nc pl S) (hs : g_fst S (gO S pl) S2) : gFI S0 nc (pl + 1) S2 := by
  obtain ⟨ht, hI, hg, hr, h4, h5, hW⟩ := h
  have hO := (hI.2.2.2.2.2.2.1 rfl).1
  have hX := hO.X hI.2.1 hI.2.2.2.1
  have hn : gO S pl < gG S 0 := (hX pl (show pl < gG S 0 by omega)).1
  have f4 := h4 pl (by omega) hp
  have f5 := h5 (gO S pl) (by omega)
  have ho : ¬ g_ho (gRy S) (gO S pl) := fun q => by
    rcases q with q | q
    · have q : gN S (gO S pl) 5 = 1 := q; omega
    · have q : gN S (gO S pl) 4 = 1 := q; omega
  have dist : ∀ i, pl + 1 ≤ i → i < nc → gO S i ≠ gO S pl := by
    intro i h1 h2 e
    obtain ⟨pos, -, p2, -⟩ := hO
    have a1 : pos (gO S i) = i := (p2 i (show i < gG S 0 by omega)).2
    have a2 : pos (gO S pl) = pl := (p2 pl (show pl < gG S 0 by omega)).2
    rw [e] at a1; omega
  have keep : ∀ v : Nat, ∀ X : gS, gN X = gN S → gO X = gO S → (∀ i, pl + 1 ≤ i → i < nc → gN (gsN X (gO S pl) 4 v) (gO (gsN X (gO S pl) 4 v) i) 4 = 0) ∧ (∀ n, n < nc → gN (gsN X (gO S pl) 4 v) n 5 = 0) := by
    intro v X e1 e2
    refine ⟨fun i h1 h2 => ?_, fun n hn => ?_⟩
    · show g_up2 (gN X) (gO S pl) 4 v (gO X i) 4 = 0
      rw [e1, e2, g_up2_n _ _ (Or.inl (dist i h1 h2))]
      exact h4 i (by omega) h2
    · show g_up2 (gN X) (gO S pl) 4 v n 5 = 0
      rw [e1, g_up2_n _ _ (Or.inr (by decide))]
      exact h5 n hn
  have wN : ∀ v : Nat, v ≤ 1 → ∀ X : gS, gW X → gW (gsN X (gO S pl) 4 v) := fun v hv X hX => gW.N hX ⟨fun _ => by omega, fun _ => by omega, fun _ => by omega, fun _ => by omega, fun _ => by omega, fun _ => by omega⟩
  refine ⟨⟨S, ht, hs⟩, ?_⟩
  rcases hs with ⟨ha, f, e, he, hf, rfl⟩ | ⟨ha, rfl⟩
  · have hath := g_argC_ath hI hn ha
    have c1 := gI_cell hI hn ho f
    refine ⟨?_, hg, hr, (keep _ _ rfl rfl).1, (keep _ _ rfl rfl).2, wN _ (by split <;> omega) _ hW⟩
    by_cases e0 : e = 0
    · subst e0
      rw [if_pos rfl]
      refine gI_mark (i := 4) c1 rfl (Or.inl rfl) hn ho ?_
      intro x y hx hy
      have e9 : gC (gsC (gRy S) (gN S (gO S pl) 2) f) (gN S (gO S pl) 2) = f := gC_s f
      show g_cg (gT S (gN S (gO S pl) 2) 0) (gC (gsC (gRy S) (gN S (gO S pl) 2) f) (gN S (gO S pl) 2) (x * 4 + y))
      rw [e9]
      exact hI.new rfl hn hath he (hf rfl) hx hy
    · rw [if_neg e0]
      have e9 : gRy (gsN (gsC S (gN S (gO S pl) 2) f) (gO S pl) 4 0) = gsC (gRy S) (gN S (gO S pl) 2) f := by
        rw [g_gsN_id (S := gsC S (gN S (gO S pl) 2) f) f4]
        rfl
      rw [e9]; exact c1
  · refine ⟨?_, hg, hr, (keep _ _ rfl rfl).1, (keep _ _ rfl rfl).2, wN _ (by omega) _ hW⟩
    rw [g_gsN_id f4]; exact hI
theorem gFI.z {S : gS} (hI : gI (gRy S)) (hW : gW S) (hr : gG S 1 = 0) (hf : ∀ n, n < gG S 0 → gN S n 4 = 0 ∧ gN S n 5 = 0) : gFI S (gG S 0) 0 S := by
  have hO := (hI.2.2.2.2.2.2.1 rfl).1
  have hX := hO.X hI.2.1 hI.2.2.2.1
  exact ⟨rfl, hI, rfl, hr, fun i _ hi => (hf _ (hX i hi).1).1, fun n hn => (hf n hn).2, hW⟩
/-- as ready: after the order and the shapes are found -/
theorem gI_ready {S : gS} (hW : gW S) (hV : gV S) (hU : gU S) (hJ : gJ S) (hO : gOk S) (hS : gSh S) (hf : ∀ n, n < gG S 0 → gN S n 4 = 0 ∧ gN S n 5 = 0) (hg : ∀ s, s < 20 → g_fed S s → g_gd S s) : gI (gRy S) := by
  refine ⟨gW.G hW ⟨fun _ => by omega, fun _ => by omega⟩, hV, hU, hJ, fun n hn _ => (hf n hn).2, fun q => absurd (show (1 : Nat) = 0 from q) (by decide), fun _ => ⟨hO, hS⟩, fun s hs ht => hg s hs (g_thP_un (S := S) hJ hf hs ht)⟩
