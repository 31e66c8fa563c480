/-! ===== the class: Work.workOut as one ===== -/
/-- the element of node n's outcome, its arguments being the slots a, b, c -/
def g_E (S : gS) (n a b c : Nat) : Nat → Nat → UInt64 := match gN S n 1 with
  | 0 => fun x y => if gT S a 0 = 1 then FP.i2d (g_pi 0 (FP.d2i (g_ag S a x y)) (FP.d2i (g_ag S b x y))) else g_pf 0 (g_ag S a x y) (g_ag S b x y)
  | 1 => fun x y => if gT S a 0 = 1 then FP.i2d (g_pi 1 (FP.d2i (g_ag S a x y)) (FP.d2i (g_ag S b x y))) else g_pf 1 (g_ag S a x y) (g_ag S b x y)
  | 2 => fun x y => if gT S a 0 = 1 then FP.i2d (g_pi 2 (FP.d2i (g_ag S a x y)) (FP.d2i (g_ag S b x y))) else g_pf 2 (g_ag S a x y) (g_ag S b x y)
  | 3 => fun x y => if gT S a 0 = 1 then FP.i2d (g_dv (FP.d2i (g_ag S a x y)) (FP.d2i (g_ag S b x y))) else FP.ddiv (g_ag S a x y) (g_ag S b x y)
  | 4 => fun x y => g_dot (fun k => gC S a (x * 4 + k)) (fun k => gC S b (k * 4 + y)) (gT S a 2) 0 FP.dconst0
  | 5 => fun x y => g_one S n (gC S a (x * 4 + y))
  | 6 => fun x y => gC S a (y * 4 + x)
  | 7 => fun x y => g_one S n (gC S a (x * 4 + y))
  | 8 => fun x y => if gT S a 0 = 1 then FP.i2d (g_pi 8 (FP.d2i (g_ag S a x y)) (FP.d2i (g_ag S b x y))) else g_pf 8 (g_ag S a x y) (g_ag S b x y)
  | 9 => fun x y => if ¬ fEq (g_ag S c x y) FP.dconst0 then g_ag S a x y else g_ag S b x y
  | 10 => if gQ S n 0 = 0 then (fun x y => g_acc (gT S a 0) (g_c0 S a y) (gT S a 1)) else (fun x y => g_acc (gT S a 0) (g_c1 S a x) (gT S a 2))
  | 11 => if gQ S n 0 = 0 then (fun x y => g_mx (g_c0 S a y) (gT S a 1 - 1)) else (fun x y => g_mx (g_c1 S a x) (gT S a 2 - 1))
  | 12 => fun x y => FP.i2d (nI (g_fi (g_c1 S a x) (gT S a 2 - 1)))
  | 13 => if gQ S n 0 = 0 then (fun x y => if x < gT S a 1 then gC S a (x * 4 + y) else gC S b ((x - gT S a 1) * 4 + y)) else (fun x y => if y < gT S a 2 then gC S a (x * 4 + y) else gC S b (x * 4 + (y - gT S a 2)))
  | 14 => fun x y => gC S a ((iN (gQ S n 0) + x) * 4 + y)
  | 15 => g_pe S a b
  | 16 => fun x y => g_dot (fun k => if iN (gQ S n 1) ≤ y * iN (gQ S n 0) + k ∧ y * iN (gQ S n 0) + k - iN (gQ S n 1) < gT S a 2 then gC S a (x * 4 + (y * iN (gQ S n 0) + k - iN (gQ S n 1))) else FP.dconst0) (fun k => gC S b (0 * 4 + k)) (gT S b 2) 0 FP.dconst0
  | 17 => if fEq (gC S c (0 * 4 + 0)) FP.dconst0 then (fun x y => gC S b (x * 4 + y)) else (fun x y => gC S a (x * 4 + y))
  | 18 => fun x y => g_one S n (gC S a (x * 4 + y))
  | _ => fun _ _ => 0
/-- it can be reckoned (but for its being too large) -/
def g_wok (S : gS) (n a b ro co : Nat) : Prop := (gN S n 1 = 3 → ∀ x y, x < ro → y < co → ¬ fEq (g_ag S b x y) FP.dconst0) ∧ (gN S n 1 = 15 → ∀ x, x < ro → g_inR S a b x)
abbrev gBt (S : gS) (a : Nat) : Prop := ∀ x y, x < gT S a 1 → y < gT S a 2 → gB (gC S a (x * 4 + y))
abbrev g_PW (S : gS) (n a b c o9 : Nat) (h : pm_H) : pm_O × pm_H → Prop := fun r => ∃ f, gH (gsC S o9 f) r.2 ∧ gFr h r.2 ∧ (r.1 = .inl (some (.int 0)) ∧ g_wok S n a b (gT S o9 1) (gT S o9 2) ∧ g_inv (g_E S n a b c) (gT S o9 2) f (gT S o9 1) 0 ∨ r.1 = .inl (some (.int (if gN S n 1 = 3 then 1 else 2))) ∧ ¬ g_wok S n a b (gT S o9 1) (gT S o9 2))
theorem g_PW_of {l : Launch} {G : pm_G} {fi : Bool} {M : pm_M} {av : List Value} {h : pm_H} {S : gS} {n a b c o9 : Nat} {E : Nat → Nat → UInt64} (k : pm_Cn l G fi fi 0 0 M av h (g_P0 S o9 h E)) (e : g_E S n a b c = E) (h3 : ¬ gN S n 1 = 3) (h15 : ¬ gN S n 1 = 15) : pm_Cn l G fi fi 0 0 M av h (g_PW S n a b c o9 h) := by
  obtain ⟨r, ⟨f, h1, h2, h4, h5⟩, k⟩ := k
  exact ⟨r, ⟨f, h1, h2, Or.inl ⟨h4, ⟨fun q => absurd q h3, fun q => absurd q h15⟩, by rw [e]; exact h5⟩⟩, k⟩
theorem g_sh_eq {t r c : Nat} {v : Nat × Nat × Nat} (h : g_sh t r c = some v) : v = (t, r, c) := by
  simp only [g_sh] at h
  split at h
  · exact (Option.some.inj h).symm
  · cases h
theorem g_ite_some {p : Prop} [Decidable p] {x : Option (Nat × Nat × Nat)} {v : Nat × Nat × Nat} (h : (if p then x else none) = some v) : p ∧ x = some v := by
  split at h
  · exact ⟨by assumption, h⟩
  · cases h
theorem g_tri {t r c t1 r1 c1 : Nat} (h : (t, r, c) = (t1, r1, c1)) : t = t1 ∧ r = r1 ∧ c = c1 := by
  cases h; exact ⟨rfl, rfl, rfl⟩
theorem g_ag_B {S : gS} {a x y ro co : Nat} (hB : gBt S a) (hr : 1 ≤ gT S a 1 ∧ (gT S a 1 = 1 ∨ ro ≤ gT S a 1)) (hc : 1 ≤ gT S a 2 ∧ (gT S a 2 = 1 ∨ co ≤ gT S a 2)) (hx : x < ro) (hy : y < co) : gB (g_ag S a x y) := by
  simp only [g_ag]
  exact hB _ _ (by split <;> omega) (by split <;> omega)
theorem g_nadd {x y : UInt64} (hx : gB x) (hy : gB y) : vf_n64 (FP.dadd x y) := g_n64 (Nat.lt_of_lt_of_le (FP.Core.dadd_mag hx hy (by omega)) (Nat.mul_le_mul_right _ (by omega)))
theorem g_nsub {x y : UInt64} (hx : gB x) (hy : gB y) : vf_n64 (FP.dsub x y) := g_n64 (Nat.lt_of_lt_of_le (FP.Core.dsub_mag hx hy (by omega)) (Nat.mul_le_mul_right _ (by omega)))
theorem g_nmul {x y : UInt64} (hx : gB x) (hy : gB y) : vf_n64 (FP.dmul x y) := g_n64 (Nat.lt_of_lt_of_le (FP.Core.dmul_mag hx hy (by omega) (by omega)) (Nat.mul_le_mul_right _ (by omega)))
theorem g_ndiv {x y : UInt64} (hx : gB x) (hy : gB y) (hz : ¬ fEq y FP.dconst0) : vf_n64 (FP.ddiv x y) := by
  obtain ⟨s, c, q, ex⟩ := FP.Core.fin_of_lt hx (by omega)
  obtain ⟨t, d, r, ey⟩ := FP.Core.fin_of_lt hy (by omega)
  have hd : d ≠ 0 := by
    intro hd
    subst hd
    apply hz
    have e : FP.dcmp y FP.dconst0 = FP.Core.order (FP.Core.val64 y) (FP.Core.val64 FP.dconst0) := rfl
    have e0 : FP.Core.val64 FP.dconst0 = .fin false 0 FP.Core.b64.qmin := FP.Core.val64_dconst0
    show Op.cmpValue (FP.dcmp y FP.dconst0) .l = 0
    rw [e, ey, e0]
    have z : ∀ (u : Bool) (a b : Int), FP.Core.signed u (FP.Core.inUnits 0 a b) = 0 := by
      intro u a b; simp [FP.Core.inUnits, FP.Core.signed]
    simp only [FP.Core.order, z]
    rfl
  apply g_n64n
  have e := FP.Core.val64_ddiv x y
  rw [ex, ey] at e
  simp only [FP.Core.quotient] at e
  rw [if_neg hd] at e
  intro q9
  exact FP.Core.roundRatio_ne_nan _ _ _ _ _ (e.symm.trans q9)
