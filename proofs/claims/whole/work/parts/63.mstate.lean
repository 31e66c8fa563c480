/-! ===== the model's state, and the heap that holds it ===== -/
/-- scalars (0 nodes, 1 folded, 2 worked, 3 threw, 4 now, 5 thrown, 6 ready); arrays of ints by their place after 96; p, q and argument; value; fresh -/
abbrev mS : Type := (Nat → Nat) × (Nat → Nat → Nat) × (Nat → Nat → Int32) × (Nat → UInt64) × (Nat → UInt64)
abbrev mG (S : mS) : Nat → Nat := S.1
abbrev mA (S : mS) : Nat → Nat → Nat := S.2.1
abbrev mQ (S : mS) : Nat → Nat → Int32 := S.2.2.1
abbrev mV (S : mS) : Nat → UInt64 := S.2.2.2.1
abbrev mF (S : mS) : Nat → UInt64 := S.2.2.2.2
def mH (S : mS) (h : pm_H) : Prop :=
  h[95]? = some (pm_Ob 4 [.ref 96, .ref 97, .ref 98, .ref 99, .ref 100, .ref 101, .ref 102, .ref 103, .ref 104, .ref 105, .ref 106, .ref 107, .ref 108, .ref 109, .int (nI (mG S 0)), .int (nI (mG S 1)), .int (nI (mG S 2)), .int (nI (mG S 3)), .int (nI (mG S 4)), .int (nI (mG S 5)), .int (nI (mG S 6))]) ∧ h[96]? = some (pm_I 20 (fun j => nI (mA S 0 j))) ∧ h[97]? = some (pm_I 20 (fun j => nI (mA S 1 j))) ∧ h[98]? = some (pm_I 20 (fun j => nI (mA S 2 j))) ∧ h[99]? = some (pm_I 20 (fun j => nI (mA S 3 j))) ∧ h[100]? = some (pm_I 20 (fun j => nI (mA S 4 j))) ∧ h[101]? = some (pm_Dd 320 (mV S)) ∧ h[102]? = some (pm_I 14 (fun j => nI (mA S 6 j))) ∧ h[103]? = some (pm_I 14 (fun j => nI (mA S 7 j))) ∧ h[104]? = some (pm_I 14 (mQ S 8)) ∧ h[105]? = some (pm_I 14 (mQ S 9)) ∧ h[106]? = some (pm_I 14 (fun j => nI (mA S 10 j))) ∧ h[107]? = some (pm_I 14 (fun j => nI (mA S 11 j))) ∧ h[108]? = some (pm_I 42 (mQ S 12)) ∧ h[109]? = some (pm_Dd 16 (mF S))
def mFr (h h' : pm_H) : Prop := h'.length = h.length ∧ ∀ k, k < 95 ∨ 110 ≤ k → h'[k]? = h[k]?
theorem mFr.rf (h : pm_H) : mFr h h := ⟨rfl, fun _ _ => rfl⟩
theorem mFr.tr {a b c : pm_H} (h1 : mFr a b) (h2 : mFr b c) : mFr a c := ⟨h2.1.trans h1.1, fun k hk => (h2.2 k hk).trans (h1.2 k hk)⟩
theorem mFr.set (h : pm_H) {a : Nat} (c : va_E) (ha : 95 ≤ a ∧ a < 110) : mFr h (h.set a c) := ⟨List.length_set, fun k hk => List.getElem?_set_ne (by omega)⟩
def msG (S : mS) (k v : Nat) : mS := (va_up S.1 k v, S.2)
def msA (S : mS) (i k v : Nat) : mS := (S.1, g_up2 S.2.1 i k v, S.2.2)
def msQ (S : mS) (i k : Nat) (v : Int32) : mS := (S.1, S.2.1, g_up2 S.2.2.1 i k v, S.2.2.2)
def msV (S : mS) (k : Nat) (v : UInt64) : mS := (S.1, S.2.1, S.2.2.1, va_up S.2.2.2.1 k v, S.2.2.2.2)
def msF (S : mS) (k : Nat) (v : UInt64) : mS := (S.1, S.2.1, S.2.2.1, S.2.2.2.1, va_up S.2.2.2.2 k v)
theorem mH.G0 {S : mS} {h : pm_H} {v : Nat} (H : mH S h) : mH (msG S 0 v) (h.set 95 (pm_Ob 4 [.ref 96, .ref 97, .ref 98, .ref 99, .ref 100, .ref 101, .ref 102, .ref 103, .ref 104, .ref 105, .ref 106, .ref 107, .ref 108, .ref 109, .int (nI v), .int (nI (mG S 1)), .int (nI (mG S 2)), .int (nI (mG S 3)), .int (nI (mG S 4)), .int (nI (mG S 5)), .int (nI (mG S 6))])) := by
  obtain ⟨q0, q1, q2, q3, q4, q5, q6, q7, q8, q9, q10, q11, q12, q13, q14⟩ := H
  refine ⟨?_, g_sn q1 (by omega), g_sn q2 (by omega), g_sn q3 (by omega), g_sn q4 (by omega), g_sn q5 (by omega), g_sn q6 (by omega), g_sn q7 (by omega), g_sn q8 (by omega), g_sn q9 (by omega), g_sn q10 (by omega), g_sn q11 (by omega), g_sn q12 (by omega), g_sn q13 (by omega), g_sn q14 (by omega)⟩
  rw [g_ss q0]
  simp [msG, mG, va_up]
theorem mH.G1 {S : mS} {h : pm_H} {v : Nat} (H : mH S h) : mH (msG S 1 v) (h.set 95 (pm_Ob 4 [.ref 96, .ref 97, .ref 98, .ref 99, .ref 100, .ref 101, .ref 102, .ref 103, .ref 104, .ref 105, .ref 106, .ref 107, .ref 108, .ref 109, .int (nI (mG S 0)), .int (nI v), .int (nI (mG S 2)), .int (nI (mG S 3)), .int (nI (mG S 4)), .int (nI (mG S 5)), .int (nI (mG S 6))])) := by
  obtain ⟨q0, q1, q2, q3, q4, q5, q6, q7, q8, q9, q10, q11, q12, q13, q14⟩ := H
  refine ⟨?_, g_sn q1 (by omega), g_sn q2 (by omega), g_sn q3 (by omega), g_sn q4 (by omega), g_sn q5 (by omega), g_sn q6 (by omega), g_sn q7 (by omega), g_sn q8 (by omega), g_sn q9 (by omega), g_sn q10 (by omega), g_sn q11 (by omega), g_sn q12 (by omega), g_sn q13 (by omega), g_sn q14 (by omega)⟩
  rw [g_ss q0]
  simp [msG, mG, va_up]
theorem mH.G2 {S : mS} {h : pm_H} {v : Nat} (H : mH S h) : mH (msG S 2 v) (h.set 95 (pm_Ob 4 [.ref 96, .ref 97, .ref 98, .ref 99, .ref 100, .ref 101, .ref 102, .ref 103, .ref 104, .ref 105, .ref 106, .ref 107, .ref 108, .ref 109, .int (nI (mG S 0)), .int (nI (mG S 1)), .int (nI v), .int (nI (mG S 3)), .int (nI (mG S 4)), .int (nI (mG S 5)), .int (nI (mG S 6))])) := by
  obtain ⟨q0, q1, q2, q3, q4, q5, q6, q7, q8, q9, q10, q11, q12, q13, q14⟩ := H
  refine ⟨?_, g_sn q1 (by omega), g_sn q2 (by omega), g_sn q3 (by omega), g_sn q4 (by omega), g_sn q5 (by omega), g_sn q6 (by omega), g_sn q7 (by omega), g_sn q8 (by omega), g_sn q9 (by omega), g_sn q10 (by omega), g_sn q11 (by omega), g_sn q12 (by omega), g_sn q13 (by omega), g_sn q14 (by omega)⟩
  rw [g_ss q0]
  simp [msG, mG, va_up]
theorem mH.G3 {S : mS} {h : pm_H} {v : Nat} (H : mH S h) : mH (msG S 3 v) (h.set 95 (pm_Ob 4 [.ref 96, .ref 97, .ref 98, .ref 99, .ref 100, .ref 101, .ref 102, .ref 103, .ref 104, .ref 105, .ref 106, .ref 107, .ref 108, .ref 109, .int (nI (mG S 0)), .int (nI (mG S 1)), .int (nI (mG S 2)), .int (nI v), .int (nI (mG S 4)), .int (nI (mG S 5)), .int (nI (mG S 6))])) := by
  obtain ⟨q0, q1, q2, q3, q4, q5, q6, q7, q8, q9, q10, q11, q12, q13, q14⟩ := H
  refine ⟨?_, g_sn q1 (by omega), g_sn q2 (by omega), g_sn q3 (by omega), g_sn q4 (by omega), g_sn q5 (by omega), g_sn q6 (by omega), g_sn q7 (by omega), g_sn q8 (by omega), g_sn q9 (by omega), g_sn q10 (by omega), g_sn q11 (by omega), g_sn q12 (by omega), g_sn q13 (by omega), g_sn q14 (by omega)⟩
  rw [g_ss q0]
  simp [msG, mG, va_up]
theorem mH.G4 {S : mS} {h : pm_H} {v : Nat} (H : mH S h) : mH (msG S 4 v) (h.set 95 (pm_Ob 4 [.ref 96, .ref 97, .ref 98, .ref 99, .ref 100, .ref 101, .ref 102, .ref 103, .ref 104, .ref 105, .ref 106, .ref 107, .ref 108, .ref 109, .int (nI (mG S 0)), .int (nI (mG S 1)), .int (nI (mG S 2)), .int (nI (mG S 3)), .int (nI v), .int (nI (mG S 5)), .int (nI (mG S 6))])) := by
  obtain ⟨q0, q1, q2, q3, q4, q5, q6, q7, q8, q9, q10, q11, q12, q13, q14⟩ := H
  refine ⟨?_, g_sn q1 (by omega), g_sn q2 (by omega), g_sn q3 (by omega), g_sn q4 (by omega), g_sn q5 (by omega), g_sn q6 (by omega), g_sn q7 (by omega), g_sn q8 (by omega), g_sn q9 (by omega), g_sn q10 (by omega), g_sn q11 (by omega), g_sn q12 (by omega), g_sn q13 (by omega), g_sn q14 (by omega)⟩
  rw [g_ss q0]
  simp [msG, mG, va_up]
theorem mH.G5 {S : mS} {h : pm_H} {v : Nat} (H : mH S h) : mH (msG S 5 v) (h.set 95 (pm_Ob 4 [.ref 96, .ref 97, .ref 98, .ref 99, .ref 100, .ref 101, .ref 102, .ref 103, .ref 104, .ref 105, .ref 106, .ref 107, .ref 108, .ref 109, .int (nI (mG S 0)), .int (nI (mG S 1)), .int (nI (mG S 2)), .int (nI (mG S 3)), .int (nI (mG S 4)), .int (nI v), .int (nI (mG S 6))])) := by
  obtain ⟨q0, q1, q2, q3, q4, q5, q6, q7, q8, q9, q10, q11, q12, q13, q14⟩ := H
  refine ⟨?_, g_sn q1 (by omega), g_sn q2 (by omega), g_sn q3 (by omega), g_sn q4 (by omega), g_sn q5 (by omega), g_sn q6 (by omega), g_sn q7 (by omega), g_sn q8 (by omega), g_sn q9 (by omega), g_sn q10 (by omega), g_sn q11 (by omega), g_sn q12 (by omega), g_sn q13 (by omega), g_sn q14 (by omega)⟩
  rw [g_ss q0]
  simp [msG, mG, va_up]
theorem mH.G6 {S : mS} {h : pm_H} {v : Nat} (H : mH S h) : mH (msG S 6 v) (h.set 95 (pm_Ob 4 [.ref 96, .ref 97, .ref 98, .ref 99, .ref 100, .ref 101, .ref 102, .ref 103, .ref 104, .ref 105, .ref 106, .ref 107, .ref 108, .ref 109, .int (nI (mG S 0)), .int (nI (mG S 1)), .int (nI (mG S 2)), .int (nI (mG S 3)), .int (nI (mG S 4)), .int (nI (mG S 5)), .int (nI v)])) := by
  obtain ⟨q0, q1, q2, q3, q4, q5, q6, q7, q8, q9, q10, q11, q12, q13, q14⟩ := H
  refine ⟨?_, g_sn q1 (by omega), g_sn q2 (by omega), g_sn q3 (by omega), g_sn q4 (by omega), g_sn q5 (by omega), g_sn q6 (by omega), g_sn q7 (by omega), g_sn q8 (by omega), g_sn q9 (by omega), g_sn q10 (by omega), g_sn q11 (by omega), g_sn q12 (by omega), g_sn q13 (by omega), g_sn q14 (by omega)⟩
  rw [g_ss q0]
  simp [msG, mG, va_up]
theorem mH.A0 {S : mS} {h : pm_H} {j v : Nat} (H : mH S h) : mH (msA S 0 j v) (h.set 96 (pm_I 20 (va_up (fun j => nI (mA S 0 j)) j (nI v)))) := by
  obtain ⟨q0, q1, q2, q3, q4, q5, q6, q7, q8, q9, q10, q11, q12, q13, q14⟩ := H
  refine ⟨g_sn q0 (by omega), ?_, g_sn q2 (by omega), g_sn q3 (by omega), g_sn q4 (by omega), g_sn q5 (by omega), g_sn q6 (by omega), g_sn q7 (by omega), g_sn q8 (by omega), g_sn q9 (by omega), g_sn q10 (by omega), g_sn q11 (by omega), g_sn q12 (by omega), g_sn q13 (by omega), g_sn q14 (by omega)⟩
  rw [g_ss q1]
  rw [g_nI]; simp only [msA, mA, g_up2_row]
theorem mH.A1 {S : mS} {h : pm_H} {j v : Nat} (H : mH S h) : mH (msA S 1 j v) (h.set 97 (pm_I 20 (va_up (fun j => nI (mA S 1 j)) j (nI v)))) := by
  obtain ⟨q0, q1, q2, q3, q4, q5, q6, q7, q8, q9, q10, q11, q12, q13, q14⟩ := H
  refine ⟨g_sn q0 (by omega), g_sn q1 (by omega), ?_, g_sn q3 (by omega), g_sn q4 (by omega), g_sn q5 (by omega), g_sn q6 (by omega), g_sn q7 (by omega), g_sn q8 (by omega), g_sn q9 (by omega), g_sn q10 (by omega), g_sn q11 (by omega), g_sn q12 (by omega), g_sn q13 (by omega), g_sn q14 (by omega)⟩
  rw [g_ss q2]
  rw [g_nI]; simp only [msA, mA, g_up2_row]
theorem mH.A2 {S : mS} {h : pm_H} {j v : Nat} (H : mH S h) : mH (msA S 2 j v) (h.set 98 (pm_I 20 (va_up (fun j => nI (mA S 2 j)) j (nI v)))) := by
  obtain ⟨q0, q1, q2, q3, q4, q5, q6, q7, q8, q9, q10, q11, q12, q13, q14⟩ := H
  refine ⟨g_sn q0 (by omega), g_sn q1 (by omega), g_sn q2 (by omega), ?_, g_sn q4 (by omega), g_sn q5 (by omega), g_sn q6 (by omega), g_sn q7 (by omega), g_sn q8 (by omega), g_sn q9 (by omega), g_sn q10 (by omega), g_sn q11 (by omega), g_sn q12 (by omega), g_sn q13 (by omega), g_sn q14 (by omega)⟩
  rw [g_ss q3]
  rw [g_nI]; simp only [msA, mA, g_up2_row]
theorem mH.A3 {S : mS} {h : pm_H} {j v : Nat} (H : mH S h) : mH (msA S 3 j v) (h.set 99 (pm_I 20 (va_up (fun j => nI (mA S 3 j)) j (nI v)))) := by
  obtain ⟨q0, q1, q2, q3, q4, q5, q6, q7, q8, q9, q10, q11, q12, q13, q14⟩ := H
  refine ⟨g_sn q0 (by omega), g_sn q1 (by omega), g_sn q2 (by omega), g_sn q3 (by omega), ?_, g_sn q5 (by omega), g_sn q6 (by omega), g_sn q7 (by omega), g_sn q8 (by omega), g_sn q9 (by omega), g_sn q10 (by omega), g_sn q11 (by omega), g_sn q12 (by omega), g_sn q13 (by omega), g_sn q14 (by omega)⟩
  rw [g_ss q4]
  rw [g_nI]; simp only [msA, mA, g_up2_row]
theorem mH.A4 {S : mS} {h : pm_H} {j v : Nat} (H : mH S h) : mH (msA S 4 j v) (h.set 100 (pm_I 20 (va_up (fun j => nI (mA S 4 j)) j (nI v)))) := by
  obtain ⟨q0, q1, q2, q3, q4, q5, q6, q7, q8, q9, q10, q11, q12, q13, q14⟩ := H
  refine ⟨g_sn q0 (by omega), g_sn q1 (by omega), g_sn q2 (by omega), g_sn q3 (by omega), g_sn q4 (by omega), ?_, g_sn q6 (by omega), g_sn q7 (by omega), g_sn q8 (by omega), g_sn q9 (by omega), g_sn q10 (by omega), g_sn q11 (by omega), g_sn q12 (by omega), g_sn q13 (by omega), g_sn q14 (by omega)⟩
  rw [g_ss q5]
  rw [g_nI]; simp only [msA, mA, g_up2_row]
theorem mH.V {S : mS} {h : pm_H} {j : Nat} {v : UInt64} (H : mH S h) : mH (msV S j v) (h.set 101 (pm_Dd 320 (va_up (mV S) j v))) := by
  obtain ⟨q0, q1, q2, q3, q4, q5, q6, q7, q8, q9, q10, q11, q12, q13, q14⟩ := H
  refine ⟨g_sn q0 (by omega), g_sn q1 (by omega), g_sn q2 (by omega), g_sn q3 (by omega), g_sn q4 (by omega), g_sn q5 (by omega), ?_, g_sn q7 (by omega), g_sn q8 (by omega), g_sn q9 (by omega), g_sn q10 (by omega), g_sn q11 (by omega), g_sn q12 (by omega), g_sn q13 (by omega), g_sn q14 (by omega)⟩
  rw [g_ss q6]
  rfl
theorem mH.A6 {S : mS} {h : pm_H} {j v : Nat} (H : mH S h) : mH (msA S 6 j v) (h.set 102 (pm_I 14 (va_up (fun j => nI (mA S 6 j)) j (nI v)))) := by
  obtain ⟨q0, q1, q2, q3, q4, q5, q6, q7, q8, q9, q10, q11, q12, q13, q14⟩ := H
  refine ⟨g_sn q0 (by omega), g_sn q1 (by omega), g_sn q2 (by omega), g_sn q3 (by omega), g_sn q4 (by omega), g_sn q5 (by omega), g_sn q6 (by omega), ?_, g_sn q8 (by omega), g_sn q9 (by omega), g_sn q10 (by omega), g_sn q11 (by omega), g_sn q12 (by omega), g_sn q13 (by omega), g_sn q14 (by omega)⟩
  rw [g_ss q7]
  rw [g_nI]; simp only [msA, mA, g_up2_row]
theorem mH.A7 {S : mS} {h : pm_H} {j v : Nat} (H : mH S h) : mH (msA S 7 j v) (h.set 103 (pm_I 14 (va_up (fun j => nI (mA S 7 j)) j (nI v)))) := by
  obtain ⟨q0, q1, q2, q3, q4, q5, q6, q7, q8, q9, q10, q11, q12, q13, q14⟩ := H
  refine ⟨g_sn q0 (by omega), g_sn q1 (by omega), g_sn q2 (by omega), g_sn q3 (by omega), g_sn q4 (by omega), g_sn q5 (by omega), g_sn q6 (by omega), g_sn q7 (by omega), ?_, g_sn q9 (by omega), g_sn q10 (by omega), g_sn q11 (by omega), g_sn q12 (by omega), g_sn q13 (by omega), g_sn q14 (by omega)⟩
  rw [g_ss q8]
  rw [g_nI]; simp only [msA, mA, g_up2_row]
theorem mH.Q8 {S : mS} {h : pm_H} {j : Nat} {v : Int32} (H : mH S h) : mH (msQ S 8 j v) (h.set 104 (pm_I 14 (va_up (mQ S 8) j v))) := by
  obtain ⟨q0, q1, q2, q3, q4, q5, q6, q7, q8, q9, q10, q11, q12, q13, q14⟩ := H
  refine ⟨g_sn q0 (by omega), g_sn q1 (by omega), g_sn q2 (by omega), g_sn q3 (by omega), g_sn q4 (by omega), g_sn q5 (by omega), g_sn q6 (by omega), g_sn q7 (by omega), g_sn q8 (by omega), ?_, g_sn q10 (by omega), g_sn q11 (by omega), g_sn q12 (by omega), g_sn q13 (by omega), g_sn q14 (by omega)⟩
  rw [g_ss q9]
  simp only [msQ, mQ, g_up2_row]
theorem mH.Q9 {S : mS} {h : pm_H} {j : Nat} {v : Int32} (H : mH S h) : mH (msQ S 9 j v) (h.set 105 (pm_I 14 (va_up (mQ S 9) j v))) := by
  obtain ⟨q0, q1, q2, q3, q4, q5, q6, q7, q8, q9, q10, q11, q12, q13, q14⟩ := H
  refine ⟨g_sn q0 (by omega), g_sn q1 (by omega), g_sn q2 (by omega), g_sn q3 (by omega), g_sn q4 (by omega), g_sn q5 (by omega), g_sn q6 (by omega), g_sn q7 (by omega), g_sn q8 (by omega), g_sn q9 (by omega), ?_, g_sn q11 (by omega), g_sn q12 (by omega), g_sn q13 (by omega), g_sn q14 (by omega)⟩
  rw [g_ss q10]
  simp only [msQ, mQ, g_up2_row]
theorem mH.A10 {S : mS} {h : pm_H} {j v : Nat} (H : mH S h) : mH (msA S 10 j v) (h.set 106 (pm_I 14 (va_up (fun j => nI (mA S 10 j)) j (nI v)))) := by
  obtain ⟨q0, q1, q2, q3, q4, q5, q6, q7, q8, q9, q10, q11, q12, q13, q14⟩ := H
  refine ⟨g_sn q0 (by omega), g_sn q1 (by omega), g_sn q2 (by omega), g_sn q3 (by omega), g_sn q4 (by omega), g_sn q5 (by omega), g_sn q6 (by omega), g_sn q7 (by omega), g_sn q8 (by omega), g_sn q9 (by omega), g_sn q10 (by omega), ?_, g_sn q12 (by omega), g_sn q13 (by omega), g_sn q14 (by omega)⟩
  rw [g_ss q11]
  rw [g_nI]; simp only [msA, mA, g_up2_row]
theorem mH.A11 {S : mS} {h : pm_H} {j v : Nat} (H : mH S h) : mH (msA S 11 j v) (h.set 107 (pm_I 14 (va_up (fun j => nI (mA S 11 j)) j (nI v)))) := by
  obtain ⟨q0, q1, q2, q3, q4, q5, q6, q7, q8, q9, q10, q11, q12, q13, q14⟩ := H
  refine ⟨g_sn q0 (by omega), g_sn q1 (by omega), g_sn q2 (by omega), g_sn q3 (by omega), g_sn q4 (by omega), g_sn q5 (by omega), g_sn q6 (by omega), g_sn q7 (by omega), g_sn q8 (by omega), g_sn q9 (by omega), g_sn q10 (by omega), g_sn q11 (by omega), ?_, g_sn q13 (by omega), g_sn q14 (by omega)⟩
  rw [g_ss q12]
  rw [g_nI]; simp only [msA, mA, g_up2_row]
theorem mH.Q12 {S : mS} {h : pm_H} {j : Nat} {v : Int32} (H : mH S h) : mH (msQ S 12 j v) (h.set 108 (pm_I 42 (va_up (mQ S 12) j v))) := by
  obtain ⟨q0, q1, q2, q3, q4, q5, q6, q7, q8, q9, q10, q11, q12, q13, q14⟩ := H
  refine ⟨g_sn q0 (by omega), g_sn q1 (by omega), g_sn q2 (by omega), g_sn q3 (by omega), g_sn q4 (by omega), g_sn q5 (by omega), g_sn q6 (by omega), g_sn q7 (by omega), g_sn q8 (by omega), g_sn q9 (by omega), g_sn q10 (by omega), g_sn q11 (by omega), g_sn q12 (by omega), ?_, g_sn q14 (by omega)⟩
  rw [g_ss q13]
  simp only [msQ, mQ, g_up2_row]
theorem mH.F {S : mS} {h : pm_H} {j : Nat} {v : UInt64} (H : mH S h) : mH (msF S j v) (h.set 109 (pm_Dd 16 (va_up (mF S) j v))) := by
  obtain ⟨q0, q1, q2, q3, q4, q5, q6, q7, q8, q9, q10, q11, q12, q13, q14⟩ := H
  refine ⟨g_sn q0 (by omega), g_sn q1 (by omega), g_sn q2 (by omega), g_sn q3 (by omega), g_sn q4 (by omega), g_sn q5 (by omega), g_sn q6 (by omega), g_sn q7 (by omega), g_sn q8 (by omega), g_sn q9 (by omega), g_sn q10 (by omega), g_sn q11 (by omega), g_sn q12 (by omega), g_sn q13 (by omega), ?_⟩
  rw [g_ss q14]
  rfl
