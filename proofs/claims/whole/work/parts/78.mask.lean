/-! ===== masks ===== -/
/-- the mask's bit -/
abbrev mBt (x : Int32) (k : Nat) : Int32 := (x >>> (nI k &&& 31)) &&& 1
theorem mBt_0 (k : Nat) : mBt 0 k = 0 := by
  show (0 >>> (nI k &&& 31)) &&& 1 = (0 : Int32)
  rw [Int32.zero_shiftRight]; rfl
theorem g_and_or (a b c : Int32) : (a ||| b) &&& c = (a &&& c) ||| (b &&& c) := by
  rw [← Int32.toBitVec_inj]
  simp only [Int32.toBitVec_and, Int32.toBitVec_or]
  apply BitVec.eq_of_getLsbD_eq
  intro i _
  simp only [BitVec.getLsbD_and, BitVec.getLsbD_or]
  cases a.toBitVec.getLsbD i <;> cases b.toBitVec.getLsbD i <;> cases c.toBitVec.getLsbD i <;> rfl
theorem mBt_one : ∀ n, n < 14 → ∀ k, k < 14 → ((((1 : Int32) <<< (nI n &&& 31)) >>> (nI k &&& 31)) &&& 1 = 0 ↔ k ≠ n) := by decide +kernel
theorem mBt_or {x : Int32} {n k : Nat} (hn : n < 14) (hk : k < 14) : mBt (x ||| (1 <<< (nI n &&& 31))) k = 0 ↔ mBt x k = 0 ∧ k ≠ n := by
  show ((x ||| (1 <<< (nI n &&& 31))) >>> (nI k &&& 31)) &&& 1 = 0 ↔ _
  rw [Int32.shiftRight_or, g_and_or, Int32.or_eq_zero_iff, mBt_one n hn k hk]
theorem nI_subA (a c : Nat) : nI (a + c) - nI a = nI c := by
  rw [← nI_add, Int32.add_comm]
  exact Int32.add_sub_cancel _ _
