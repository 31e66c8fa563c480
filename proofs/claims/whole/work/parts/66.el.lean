/-! ===== the element of an outcome: of its type, and no NaN ===== -/
def g_rng (S : gS) (s : Nat) : Prop := 1 ≤ gT S s 1 ∧ gT S s 1 ≤ 4 ∧ 1 ≤ gT S s 2 ∧ gT S s 2 ≤ 4 ∧ gT S s 0 ≤ 1
theorem gW.rng {S : gS} (hW : gW S) {s : Nat} (hs : s < 20) : g_rng S s := by
  have := hW.2.2.2.2.1 s hs
  exact ⟨by omega, by omega, by omega, by omega, by omega⟩
/-- repeated or not: a cell of the table -/
theorem g_ag_in {S : gS} {a ro co x y : Nat} (hr : 1 ≤ gT S a 1 ∧ (gT S a 1 = 1 ∨ ro ≤ gT S a 1)) (hc : 1 ≤ gT S a 2 ∧ (gT S a 2 = 1 ∨ co ≤ gT S a 2)) (hx : x < ro) (hy : y < co) :
    (if gT S a 1 = 1 then 0 else x) < gT S a 1 ∧ (if gT S a 2 = 1 then 0 else y) < gT S a 2 := by
  constructor
  · split <;> omega
  · split <;> omega
theorem g_ag_cg {S : gS} {a ro co x y : Nat} (hg : g_gd S a) (hr : 1 ≤ gT S a 1 ∧ (gT S a 1 = 1 ∨ ro ≤ gT S a 1)) (hc : 1 ≤ gT S a 2 ∧ (gT S a 2 = 1 ∨ co ≤ gT S a 2)) (hx : x < ro) (hy : y < co) : g_cg (gT S a 0) (g_ag S a x y) := by
  have h := g_ag_in hr hc hx hy
  exact hg _ _ h.1 h.2
theorem g_mx_in (X : Nat → UInt64) (P : UInt64 → Prop) (m : Nat) (h : ∀ k, k ≤ m → P (X k)) : P (g_mx X m) := by
  rw [g_mx_fi]
  exact h _ (g_fi_le X m)
theorem g_dot_nn {X Y : Nat → UInt64} : ∀ (d k : Nat) (acc : UInt64), k + d ≤ 4 → acc.toNat % 2 ^ 63 < (1090 + 2 * k) * 2 ^ 52 → (∀ j, j < k + d → gB (X j) ∧ gB (Y j)) → g_nn (g_dot X Y d k acc)
  | 0, k, acc, hk, ha, _ => by
    show acc.toNat % 2 ^ 63 ≤ 9218868437227405312
    omega
  | d + 1, k, acc, hk, ha, h => by
    have h1 := g_dot_ok (k := k) (by omega) ha (h k (by omega)).1 (h k (by omega)).2
    exact g_dot_nn d (k + 1) _ (by omega) h1.2.2 (fun j hj => h j (by omega))
theorem g_acc_cg {ty : Nat} {X : Nat → UInt64} {m : Nat} (hm : 1 ≤ m ∧ m ≤ 4) (h : ∀ k, k < m → g_cg ty (X k)) : (ty = 1 → ∃ i : Int32, g_acc ty X m = FP.i2d i) ∧ (¬ ty = 1 → g_nn (g_acc ty X m)) := by
  obtain ⟨k, rfl⟩ : ∃ k, m = k + 1 := ⟨m - 1, by omega⟩
  refine ⟨fun ht => ?_, fun ht => ?_⟩
  · simp only [g_acc, g_ad]
    rw [if_pos ht]
    exact ⟨_, rfl⟩
  · have h1 := g_acc_B (X := X) ht (k + 1) (by omega) (fun j hj => (h j hj).B)
    show (g_acc ty X (k + 1)).toNat % 2 ^ 63 ≤ 9218868437227405312
    omega
/-- what an element is, by the type of the outcome -/
def g_el (t : Nat) (v : UInt64) : Prop := (t = 1 → ∃ i : Int32, v = FP.i2d i) ∧ (¬ t = 1 → g_nn v)
theorem g_cg.el {t : Nat} {v : UInt64} (h : g_cg t v) : g_el t v := ⟨h.1, fun q => g_nn_of (h.2 q).1⟩
theorem g_el.cg {t : Nat} {v : UInt64} (h : g_el t v) (hb : ¬ t = 1 → ¬ g_big v) : g_cg t v := ⟨h.1, fun q => ⟨g_nb (h.2 q) (hb q), hb q⟩⟩
theorem g_inR_lt {S : gS} {a b x : Nat} (hr : g_rng S a) (h : g_inR S a b x) : iN (g_rw (gT S a 1) (FP.d2i (gC S b (0 * 4 + x)))) < gT S a 1 := (g_in_lt hr.2.1 h).2
theorem g_E_el {S : gS} {n a b c t ro co x y : Nat} (hk : gN S n 1 ≤ 18) (hs : g_fx S n a b c = some (t, ro, co)) (ra : g_rng S a) (rb : 1 < g_ar (gN S n 1) → g_rng S b) (rc : 2 < g_ar (gN S n 1) → g_rng S c) (ga : ¬ gN S n 1 = 17 → g_gd S a) (gb : ¬ gN S n 1 = 17 → 1 < g_ar (gN S n 1) → g_gd S b) (g17 : gN S n 1 = 17 → (fEq (gC S c (0 * 4 + 0)) FP.dconst0 → g_gd S b) ∧ (¬ fEq (gC S c (0 * 4 + 0)) FP.dconst0 → g_gd S a)) (hx : x < ro) (hy : y < co) (w3 : gN S n 1 = 3 → ¬ fEq (g_ag S b x y) FP.dconst0) (w15 : gN S n 1 = 15 → g_inR S a b x) : g_el t (g_E S n a b c x y) := by
  have hk : gN S n 1 = 0 ∨ gN S n 1 = 1 ∨ gN S n 1 = 2 ∨ gN S n 1 = 3 ∨ gN S n 1 = 4 ∨ gN S n 1 = 5 ∨ gN S n 1 = 6 ∨ gN S n 1 = 7 ∨ gN S n 1 = 8 ∨ gN S n 1 = 9 ∨ gN S n 1 = 10 ∨ gN S n 1 = 11 ∨ gN S n 1 = 12 ∨ gN S n 1 = 13 ∨ gN S n 1 = 14 ∨ gN S n 1 = 15 ∨ gN S n 1 = 16 ∨ gN S n 1 = 17 ∨ gN S n 1 = 18 := by omega
  rcases hk with hop | hop | hop | hop | hop | hop | hop | hop | hop | hop | hop | hop | hop | hop | hop | hop | hop | hop | hop
  · obtain ⟨r1, r2, r3, r4, r5⟩ := id ra
    obtain ⟨s1, s2, s3, s4, s5⟩ := rb (by rw [hop]; decide)
    have ga := ga (by omega)
    have gb := gb (by omega) (by rw [hop]; decide)
    simp only [g_fx, hop] at hs
    simp only [g_E, hop]
    obtain ⟨h1, hs⟩ := g_ite_some hs
    obtain ⟨h2, hs⟩ := g_ite_some hs
    obtain ⟨z0, z1, z2⟩ := g_tri (g_sh_eq hs)
    by_cases ht : gT S a 0 = 1
    · rw [if_pos ht]; exact ⟨fun _ => ⟨_, rfl⟩, fun _ => g_i2d_nn _⟩
    · rw [if_neg ht]; exact ⟨fun q => by omega, fun _ => g_n64_nn (g_nadd (g_ag_cg (ro := ro) (co := co) ga ⟨by omega, by omega⟩ ⟨by omega, by omega⟩ hx hy).B (g_ag_cg (ro := ro) (co := co) gb ⟨by omega, by omega⟩ ⟨by omega, by omega⟩ hx hy).B)⟩
  · obtain ⟨r1, r2, r3, r4, r5⟩ := id ra
    obtain ⟨s1, s2, s3, s4, s5⟩ := rb (by rw [hop]; decide)
    have ga := ga (by omega)
    have gb := gb (by omega) (by rw [hop]; decide)
    simp only [g_fx, hop] at hs
    simp only [g_E, hop]
    obtain ⟨h1, hs⟩ := g_ite_some hs
    obtain ⟨h2, hs⟩ := g_ite_some hs
    obtain ⟨z0, z1, z2⟩ := g_tri (g_sh_eq hs)
    by_cases ht : gT S a 0 = 1
    · rw [if_pos ht]; exact ⟨fun _ => ⟨_, rfl⟩, fun _ => g_i2d_nn _⟩
    · rw [if_neg ht]; exact ⟨fun q => by omega, fun _ => g_n64_nn (g_nsub (g_ag_cg (ro := ro) (co := co) ga ⟨by omega, by omega⟩ ⟨by omega, by omega⟩ hx hy).B (g_ag_cg (ro := ro) (co := co) gb ⟨by omega, by omega⟩ ⟨by omega, by omega⟩ hx hy).B)⟩
  · obtain ⟨r1, r2, r3, r4, r5⟩ := id ra
    obtain ⟨s1, s2, s3, s4, s5⟩ := rb (by rw [hop]; decide)
    have ga := ga (by omega)
    have gb := gb (by omega) (by rw [hop]; decide)
    simp only [g_fx, hop] at hs
    simp only [g_E, hop]
    obtain ⟨h1, hs⟩ := g_ite_some hs
    obtain ⟨h2, hs⟩ := g_ite_some hs
    obtain ⟨z0, z1, z2⟩ := g_tri (g_sh_eq hs)
    by_cases ht : gT S a 0 = 1
    · rw [if_pos ht]; exact ⟨fun _ => ⟨_, rfl⟩, fun _ => g_i2d_nn _⟩
    · rw [if_neg ht]; exact ⟨fun q => by omega, fun _ => g_n64_nn (g_nmul (g_ag_cg (ro := ro) (co := co) ga ⟨by omega, by omega⟩ ⟨by omega, by omega⟩ hx hy).B (g_ag_cg (ro := ro) (co := co) gb ⟨by omega, by omega⟩ ⟨by omega, by omega⟩ hx hy).B)⟩
  · obtain ⟨r1, r2, r3, r4, r5⟩ := id ra
    obtain ⟨s1, s2, s3, s4, s5⟩ := rb (by rw [hop]; decide)
    have ga := ga (by omega)
    have gb := gb (by omega) (by rw [hop]; decide)
    simp only [g_fx, hop] at hs
    simp only [g_E, hop]
    obtain ⟨h1, hs⟩ := g_ite_some hs
    obtain ⟨h2, hs⟩ := g_ite_some hs
    obtain ⟨z0, z1, z2⟩ := g_tri (g_sh_eq hs)
    by_cases ht : gT S a 0 = 1
    · rw [if_pos ht]; exact ⟨fun _ => ⟨_, rfl⟩, fun _ => g_i2d_nn _⟩
    · rw [if_neg ht]; exact ⟨fun q => by omega, fun _ => g_n64_nn (g_ndiv (g_ag_cg (ro := ro) (co := co) ga ⟨by omega, by omega⟩ ⟨by omega, by omega⟩ hx hy).B (g_ag_cg (ro := ro) (co := co) gb ⟨by omega, by omega⟩ ⟨by omega, by omega⟩ hx hy).B (w3 hop))⟩
  · obtain ⟨r1, r2, r3, r4, r5⟩ := id ra
    obtain ⟨s1, s2, s3, s4, s5⟩ := rb (by rw [hop]; decide)
    have ga := ga (by omega)
    have gb := gb (by omega) (by rw [hop]; decide)
    simp only [g_fx, hop] at hs
    simp only [g_E, hop]
    obtain ⟨h1, hs⟩ := g_ite_some hs
    obtain ⟨z0, z1, z2⟩ := g_tri (g_sh_eq hs)
    exact ⟨fun q => by omega, fun _ => g_dot_nn _ 0 _ (by omega) (by decide) (fun j hj => ⟨(ga x j (by omega) (by omega)).B, (gb j y (by omega) (by omega)).B⟩)⟩
  · obtain ⟨r1, r2, r3, r4, r5⟩ := id ra
    have ga := ga (by omega)
    simp only [g_fx, hop] at hs
    simp only [g_E, hop]
    obtain ⟨h1, hs⟩ := g_ite_some hs
    obtain ⟨z0, z1, z2⟩ := g_tri (g_sh_eq hs)
    simp only [g_one, hop]
    refine ⟨fun q => by omega, fun _ => ?_⟩
    split
    · exact g_nn_of (ga x y (by omega) (by omega)).B
    · exact g_nn_of g_B0
  · obtain ⟨r1, r2, r3, r4, r5⟩ := id ra
    have ga := ga (by omega)
    simp only [g_fx, hop] at hs
    simp only [g_E, hop]
    obtain ⟨z0, z1, z2⟩ := g_tri (g_sh_eq hs)
    rw [z0]; exact (ga y x (by omega) (by omega)).el
  · obtain ⟨r1, r2, r3, r4, r5⟩ := id ra
    have ga := ga (by omega)
    simp only [g_fx, hop] at hs
    simp only [g_E, hop]
    obtain ⟨h1, hs⟩ := g_ite_some hs
    obtain ⟨z0, z1, z2⟩ := g_tri (g_sh_eq hs)
    simp only [g_one, hop]
    by_cases hp : gQ S n 0 = 1
    · rw [if_pos hp]; exact ⟨fun _ => ⟨_, rfl⟩, fun _ => g_i2d_nn _⟩
    · rw [if_neg hp]
      have h0 := h1.resolve_right hp
      rw [h0] at z0
      exact ⟨fun q => absurd (z0.symm.trans q) (by decide), fun _ => g_nn_of (ga x y (by omega) (by omega)).B⟩
  · obtain ⟨r1, r2, r3, r4, r5⟩ := id ra
    obtain ⟨s1, s2, s3, s4, s5⟩ := rb (by rw [hop]; decide)
    have ga := ga (by omega)
    have gb := gb (by omega) (by rw [hop]; decide)
    simp only [g_fx, hop] at hs
    simp only [g_E, hop]
    obtain ⟨h1, hs⟩ := g_ite_some hs
    obtain ⟨h2, hs⟩ := g_ite_some hs
    obtain ⟨z0, z1, z2⟩ := g_tri (g_sh_eq hs)
    split
    · exact ⟨fun _ => ⟨_, rfl⟩, fun _ => g_i2d_nn _⟩
    · simp only [g_pf]
      split
      · rw [g_i2d1]; exact ⟨fun _ => ⟨_, rfl⟩, fun _ => g_i2d_nn _⟩
      · rw [g_i2d0]; exact ⟨fun _ => ⟨_, rfl⟩, fun _ => g_i2d_nn _⟩
  · obtain ⟨r1, r2, r3, r4, r5⟩ := id ra
    obtain ⟨s1, s2, s3, s4, s5⟩ := rb (by rw [hop]; decide)
    obtain ⟨q1, q2, q3, q4, q5⟩ := rc (by rw [hop]; decide)
    have ga := ga (by omega)
    have gb := gb (by omega) (by rw [hop]; decide)
    simp only [g_fx, hop] at hs
    simp only [g_E, hop]
    obtain ⟨h1, hs⟩ := g_ite_some hs
    have h9 : ∃ r9 c9, t = gT S a 0 ∧ (gT S a 1 = gT S b 1 ∨ gT S a 1 = 1 ∨ gT S b 1 = 1) ∧ (gT S a 2 = gT S b 2 ∨ gT S a 2 = 1 ∨ gT S b 2 = 1) ∧ r9 = max (gT S a 1) (gT S b 1) ∧ c9 = max (gT S a 2) (gT S b 2) ∧ (r9 = gT S c 1 ∨ r9 = 1 ∨ gT S c 1 = 1) ∧ (c9 = gT S c 2 ∨ c9 = 1 ∨ gT S c 2 = 1) ∧ ro = max r9 (gT S c 1) ∧ co = max c9 (gT S c 2) := by
      split at hs
      · rename_i h8
        have e8 : g_sh (gT S a 0) (max (gT S a 1) (gT S b 1)) (max (gT S a 2) (gT S b 2)) = some (gT S a 0, max (gT S a 1) (gT S b 1), max (gT S a 2) (gT S b 2)) := by unfold g_sh; rw [if_pos (by omega)]
        rw [e8] at hs
        simp only [g_f9] at hs
        obtain ⟨h7, hs⟩ := g_ite_some hs
        obtain ⟨z0, z1, z2⟩ := g_tri (g_sh_eq hs)
        exact ⟨_, _, z0, h8.1, h8.2, rfl, rfl, h7.1, h7.2, z1, z2⟩
      · simp only [g_f9] at hs; cases hs
    obtain ⟨r9, c9, z0, z1, z2, z3, z4, z5, z6, z7, z8⟩ := h9
    rw [z0]
    split
    · exact (g_ag_cg (ro := ro) (co := co) ga ⟨by omega, by omega⟩ ⟨by omega, by omega⟩ hx hy).el
    · rw [h1.2]; exact (g_ag_cg (ro := ro) (co := co) gb ⟨by omega, by omega⟩ ⟨by omega, by omega⟩ hx hy).el
  · obtain ⟨r1, r2, r3, r4, r5⟩ := id ra
    have ga := ga (by omega)
    simp only [g_fx, hop] at hs
    simp only [g_E, hop]
    by_cases hp : gQ S n 0 = 0
    · rw [if_pos hp] at hs ⊢
      obtain ⟨z0, z1, z2⟩ := g_tri (g_sh_eq hs)
      rw [z0]; exact g_acc_cg ⟨r1, r2⟩ (fun k hk => ga k y hk (by omega))
    · rw [if_neg hp] at hs ⊢
      obtain ⟨hp1, hs⟩ := g_ite_some hs
      obtain ⟨z0, z1, z2⟩ := g_tri (g_sh_eq hs)
      rw [z0]; exact g_acc_cg ⟨r3, r4⟩ (fun k hk => ga x k (by omega) hk)
  · obtain ⟨r1, r2, r3, r4, r5⟩ := id ra
    have ga := ga (by omega)
    simp only [g_fx, hop] at hs
    simp only [g_E, hop]
    by_cases hp : gQ S n 0 = 0
    · rw [if_pos hp] at hs ⊢
      obtain ⟨z0, z1, z2⟩ := g_tri (g_sh_eq hs)
      rw [z0]; exact g_mx_in _ _ _ (fun k hk => (ga k y (by omega) (by omega)).el)
    · rw [if_neg hp] at hs ⊢
      obtain ⟨hp1, hs⟩ := g_ite_some hs
      obtain ⟨z0, z1, z2⟩ := g_tri (g_sh_eq hs)
      rw [z0]; exact g_mx_in _ _ _ (fun k hk => (ga x k (by omega) (by omega)).el)
  · obtain ⟨r1, r2, r3, r4, r5⟩ := id ra
    have ga := ga (by omega)
    simp only [g_fx, hop] at hs
    simp only [g_E, hop]
    obtain ⟨z0, z1, z2⟩ := g_tri (g_sh_eq hs)
    exact ⟨fun _ => ⟨_, rfl⟩, fun _ => g_i2d_nn _⟩
  · obtain ⟨r1, r2, r3, r4, r5⟩ := id ra
    obtain ⟨s1, s2, s3, s4, s5⟩ := rb (by rw [hop]; decide)
    have ga := ga (by omega)
    have gb := gb (by omega) (by rw [hop]; decide)
    simp only [g_fx, hop] at hs
    simp only [g_E, hop]
    obtain ⟨h1, hs⟩ := g_ite_some hs
    by_cases hp : gQ S n 0 = 0
    · rw [if_pos hp] at hs ⊢
      obtain ⟨h2, hs⟩ := g_ite_some hs
      obtain ⟨z0, z1, z2⟩ := g_tri (g_sh_eq hs)
      rw [z0]; split
      · exact (ga x y (by omega) (by omega)).el
      · rw [h1]; exact (gb (x - gT S a 1) y (by omega) (by omega)).el
    · rw [if_neg hp] at hs ⊢
      obtain ⟨hp1, hs⟩ := g_ite_some hs
      obtain ⟨h2, hs⟩ := g_ite_some hs
      obtain ⟨z0, z1, z2⟩ := g_tri (g_sh_eq hs)
      rw [z0]; split
      · exact (ga x y (by omega) (by omega)).el
      · rw [h1]; exact (gb x (y - gT S a 2) (by omega) (by omega)).el
  · obtain ⟨r1, r2, r3, r4, r5⟩ := id ra
    have ga := ga (by omega)
    simp only [g_fx, hop] at hs
    simp only [g_E, hop]
    obtain ⟨h1, hs⟩ := g_ite_some hs
    obtain ⟨h2, hs⟩ := g_ite_some hs
    obtain ⟨z0, z1, z2⟩ := g_tri (g_sh_eq hs)
    have le := iN_mono h1.2
    rw [z0]; exact (ga (iN (gQ S n 0) + x) y (by omega) (by omega)).el
  · obtain ⟨r1, r2, r3, r4, r5⟩ := id ra
    obtain ⟨s1, s2, s3, s4, s5⟩ := rb (by rw [hop]; decide)
    have ga := ga (by omega)
    have gb := gb (by omega) (by rw [hop]; decide)
    simp only [g_fx, hop] at hs
    simp only [g_E, hop]
    obtain ⟨h1, hs⟩ := g_ite_some hs
    obtain ⟨z0, z1, z2⟩ := g_tri (g_sh_eq hs)
    rw [z0]; exact (ga _ y (g_inR_lt ra (w15 hop)) (by omega)).el
  · obtain ⟨r1, r2, r3, r4, r5⟩ := id ra
    obtain ⟨s1, s2, s3, s4, s5⟩ := rb (by rw [hop]; decide)
    have ga := ga (by omega)
    have gb := gb (by omega) (by rw [hop]; decide)
    simp only [g_fx, hop] at hs
    simp only [g_E, hop]
    obtain ⟨h1, hs⟩ := g_ite_some hs
    obtain ⟨h2, hs⟩ := g_ite_some hs
    obtain ⟨h3, hs⟩ := g_ite_some hs
    obtain ⟨z0, z1, z2⟩ := g_tri (g_sh_eq hs)
    refine ⟨fun q => by omega, fun _ => g_dot_nn _ 0 _ (by omega) (by decide) (fun j hj => ⟨?_, (gb 0 j (by omega) (by omega)).B⟩)⟩
    split
    · exact (ga x _ (by omega) (by omega)).B
    · exact g_B0
  · obtain ⟨r1, r2, r3, r4, r5⟩ := id ra
    obtain ⟨s1, s2, s3, s4, s5⟩ := rb (by rw [hop]; decide)
    obtain ⟨q1, q2, q3, q4, q5⟩ := rc (by rw [hop]; decide)
    simp only [g_fx, hop] at hs
    simp only [g_E, hop]
    obtain ⟨h1, hs⟩ := g_ite_some hs
    obtain ⟨z0, z1, z2⟩ := g_tri (g_sh_eq hs)
    have g17 := g17 hop
    rw [z0]
    by_cases hz : fEq (gC S c (0 * 4 + 0)) FP.dconst0
    · rw [if_pos hz]; rw [h1.2.2.2.1]; exact (g17.1 hz x y (by omega) (by omega)).el
    · rw [if_neg hz]; exact (g17.2 hz x y (by omega) (by omega)).el
  · obtain ⟨r1, r2, r3, r4, r5⟩ := id ra
    have ga := ga (by omega)
    simp only [g_fx, hop] at hs
    simp only [g_E, hop]
    obtain ⟨h1, hs⟩ := g_ite_some hs
    obtain ⟨z0, z1, z2⟩ := g_tri (g_sh_eq hs)
    simp only [g_one, hop]
    refine ⟨fun q => by omega, fun _ => ?_⟩
    split
    · exact g_i2d_nn _
    · split
      · exact g_i2d_nn _
      · exact g_nn_of (ga x y (by omega) (by omega)).B
