/-! ===== doubles: what a cell that is there is ===== -/
theorem g_ar_ok' : ∀ k, k < 19 → 1 ≤ g_ar k ∧ g_ar k ≤ 3 := by decide +kernel
abbrev g_nn (x : UInt64) : Prop := x.toNat % 2 ^ 63 ≤ 9218868437227405312
theorem g_nn_of {x : UInt64} (h : gB x) : g_nn x := by
  have h1 : x.toNat % 2 ^ 63 < 1056 * 2 ^ 52 := h
  show x.toNat % 2 ^ 63 ≤ 9218868437227405312
  omega
theorem g_nan {x : UInt64} (h : g_nn x) : FP.Core.val64 x ≠ .nan := (FP.Core.ne_nan x).mpr h
theorem g_nb {x : UInt64} (h : g_nn x) (hb : ¬ g_big x) : gB x := by
  have h1 : FP.dcmp x 4741671816366391296 ≠ some .gt := fun q => hb (Or.inl (by rw [q]; decide))
  have h2 : FP.dcmp x 13965043853221167104 ≠ some .lt := fun q => hb (Or.inr (by rw [q]; decide))
  have n1 := g_nan h
  have k1 : FP.Core.dkey 4741671816366391296 = 4741671816366391296 := by decide
  have k2 : FP.Core.dkey 13965043853221167104 = -4741671816366391296 := by decide
  have h3 : ¬ (4741671816366391296 : Int) < FP.Core.dkey x := fun q => h1 ((FP.Core.dcmp_gt_key n1 (g_nan (by decide))).mpr (by rw [k1]; exact q))
  have h4 : ¬ FP.Core.dkey x < -4741671816366391296 := fun q => h2 ((FP.Core.dcmp_lt_key n1 (g_nan (by decide))).mpr (by rw [k2]; exact q))
  have hx := x.toNat_lt
  unfold FP.Core.dkey at h3 h4
  show x.toNat % 2 ^ 63 < 1056 * 2 ^ 52
  split at h3 <;> split at h4 <;> omega
theorem g_cmp_i2d (u v : Int32) : FP.dcmp (FP.i2d u) (FP.i2d v) = some (if u.toInt < v.toInt then .lt else if u.toInt = v.toInt then .eq else .gt) := by
  have hu := u.toInt_lt
  have hu2 := u.le_toInt
  have hv := v.toInt_lt
  have hv2 := v.le_toInt
  show FP.Core.dcmp (FP.Core.i2d u) (FP.Core.i2d v) = _
  rw [FP.Core.i2d_l2d, FP.Core.i2d_l2d, FP.Core.dcmp_l2d, Int32.toInt_toInt64, Int32.toInt_toInt64]
  · unfold FP.Core.Small53; rw [Int32.toInt_toInt64]; omega
  · unfold FP.Core.Small53; rw [Int32.toInt_toInt64]; omega
theorem g_i2d0 : FP.dconst0 = FP.i2d 0 := by decide +kernel
theorem g_i2d1 : FP.dconst1 = FP.i2d 1 := by decide +kernel
theorem g_eq_i2d {v : Int32} : fEq (FP.i2d v) FP.dconst0 ↔ v = 0 := by
  show (Op.cmpValue (FP.dcmp (FP.i2d v) FP.dconst0) .l : Int32) = 0 ↔ _
  rw [g_i2d0, g_cmp_i2d, show (v = 0) = (v.toInt = (0 : Int32).toInt) from propext Int32.toInt_inj.symm]
  by_cases h1 : v.toInt < (0 : Int32).toInt
  · rw [if_pos h1]
    exact ⟨fun q => absurd q (by decide), fun q => by omega⟩
  · rw [if_neg h1]
    by_cases h2 : v.toInt = (0 : Int32).toInt
    · rw [if_pos h2]
      exact ⟨fun _ => h2, fun _ => rfl⟩
    · rw [if_neg h2]
      exact ⟨fun q => absurd q (by decide), fun q => absurd q h2⟩
theorem g_lt_i2d {u v : Int32} : fLt (FP.i2d u) (FP.i2d v) ↔ u < v := by
  show ¬ (0 : Int32) ≤ Op.cmpValue (FP.dcmp (FP.i2d u) (FP.i2d v)) .g ↔ _
  rw [g_cmp_i2d, Int32.lt_iff_toInt_lt]
  by_cases h1 : u.toInt < v.toInt
  · rw [if_pos h1]
    exact ⟨fun _ => h1, fun _ => by decide⟩
  · rw [if_neg h1]
    refine ⟨fun q => ?_, fun q => absurd q h1⟩
    split at q
    · exact absurd (by decide) q
    · exact absurd (by decide) q
/-- a cell of a table that is there, by the table's type -/
def g_cg (t : Nat) (v : UInt64) : Prop := (t = 1 → ∃ i : Int32, v = FP.i2d i) ∧ (¬ t = 1 → gB v ∧ ¬ g_big v)
theorem g_cg.B {t : Nat} {v : UInt64} (h : g_cg t v) : gB v := by
  by_cases ht : t = 1
  · obtain ⟨i, rfl⟩ := h.1 ht
    exact FP.Core.i2d_mag i
  · exact (h.2 ht).1
def g_gd (S : gS) (s : Nat) : Prop := ∀ x y, x < gT S s 1 → y < gT S s 2 → g_cg (gT S s 0) (gC S s (x * 4 + y))
theorem g_gd.B {S : gS} {s : Nat} (h : g_gd S s) : gBt S s := fun x y hx hy => (h x y hx hy).B
theorem g_i2d_nn (v : Int32) : g_nn (FP.i2d v) := g_nn_of (FP.Core.i2d_mag v)
theorem g_n64_nn {x : UInt64} (h : vf_n64 x) : g_nn x := by
  have h1 : x &&& 0x7fffffffffffffff ≤ 0x7ff0000000000000 := h
  have h2 : (x &&& 0x7fffffffffffffff).toNat ≤ (0x7ff0000000000000 : UInt64).toNat := UInt64.le_iff_toNat_le.mp h1
  rw [UInt64.toNat_and, show (0x7fffffffffffffff : UInt64).toNat = 2 ^ 63 - 1 by decide, Nat.and_two_pow_sub_one_eq_mod] at h2
  exact h2
theorem g_mx_fi (X : Nat → UInt64) : ∀ m, g_mx X m = X (g_fi X m)
  | 0 => rfl
  | m + 1 => by
    simp only [g_mx, g_fi]
    rw [g_mx_fi X m]
    split <;> rfl
