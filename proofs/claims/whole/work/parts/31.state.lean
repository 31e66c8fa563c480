/-! ===== the class's state, and the heap that holds it ===== -/
/-- scalars (0 nodeCount, 1 prepared, 2 workedInAll, 3 thrownInAll); order; opened; slots (0 kind, 1 maker); tables (0 type, 1 rows, 2 columns); cells; nodes (0 argumentCount, 1 op, 2 out, 3 ordered, 4 folded, 5 known); p and q of nodes; arguments -/
abbrev gS : Type := (Nat → Nat) × (Nat → Nat) × (Nat → Nat) × (Nat → Nat → Nat) × (Nat → Nat → Nat) × (Nat → Nat → UInt64) × (Nat → Nat → Nat) × (Nat → Nat → Int32) × (Nat → Nat → Int32)
abbrev gG (S : gS) : Nat → Nat := S.1
abbrev gO (S : gS) : Nat → Nat := S.2.1
abbrev gP (S : gS) : Nat → Nat := S.2.2.1
abbrev gK (S : gS) : Nat → Nat → Nat := S.2.2.2.1
abbrev gT (S : gS) : Nat → Nat → Nat := S.2.2.2.2.1
abbrev gC (S : gS) : Nat → Nat → UInt64 := S.2.2.2.2.2.1
abbrev gN (S : gS) : Nat → Nat → Nat := S.2.2.2.2.2.2.1
abbrev gQ (S : gS) : Nat → Nat → Int32 := S.2.2.2.2.2.2.2.1
abbrev gA (S : gS) : Nat → Nat → Int32 := S.2.2.2.2.2.2.2.2
def g_up2 {α : Type} (f : Nat → Nat → α) (i j : Nat) (v : α) : Nat → Nat → α := fun a b => if a = i ∧ b = j then v else f a b
theorem g_up2_row {α : Type} (f : Nat → Nat → α) (i j : Nat) (v : α) : g_up2 f i j v i = va_up (f i) j v := by funext b; simp [g_up2, va_up]
theorem g_up2_ne {α : Type} (f : Nat → Nat → α) {i j a : Nat} (v : α) (h : a ≠ i) : g_up2 f i j v a = f a := by funext b; simp [g_up2, h]
theorem g_up2_s {α : Type} (f : Nat → Nat → α) (i j : Nat) (v : α) : g_up2 f i j v i j = v := by simp [g_up2]
theorem g_up2_n {α : Type} (f : Nat → Nat → α) {i j a b : Nat} (v : α) (h : a ≠ i ∨ b ≠ j) : g_up2 f i j v a b = f a b := by
  simp only [g_up2]
  rw [if_neg]
  rintro ⟨rfl, rfl⟩
  rcases h with h | h <;> exact h rfl
abbrev gE0 (S : gS) : va_E := pm_Ob 3 [.ref 1, .ref 2, .ref 3, .ref 4, .ref 5, .int (nI (gG S 0)), .int (nI (gG S 1)), .int (nI (gG S 2)), .int (nI (gG S 3))]
abbrev gEs (S : gS) (s : Nat) : va_E := pm_Ob 1 [.ref (8 + 3 * s), .int (nI (gK S s 0)), .int (nI (gK S s 1))]
abbrev gEt (S : gS) (s : Nat) : va_E := pm_Ob 2 [.ref (9 + 3 * s), .int (nI (gT S s 0)), .int (nI (gT S s 1)), .int (nI (gT S s 2))]
abbrev gEn (S : gS) (n : Nat) : va_E := pm_Ob 0 [.ref (68 + 2 * n), .int (nI (gN S n 0)), .int (nI (gN S n 1)), .int (nI (gN S n 2)), .int (gQ S n 0), .int (gQ S n 1), .int (nI (gN S n 3)), .int (nI (gN S n 4)), .int (nI (gN S n 5))]
def gH (S : gS) (h : pm_H) : Prop :=
  h[0]? = some (gE0 S) ∧ (∃ f, h[1]? = some (pm_Rf 3 20 f) ∧ ∀ s, s < 20 → f s = some (7 + 3 * s)) ∧ (∃ f, h[2]? = some (pm_Rf 4 14 f) ∧ ∀ n, n < 14 → f n = some (67 + 2 * n)) ∧
  h[3]? = some (pm_I 14 fun j => nI (gO S j)) ∧ h[4]? = some (pm_I 14 fun j => nI (gP S j)) ∧ (∃ t r c : Int32, h[5]? = some (pm_Ob 2 [.ref 6, .int t, .int r, .int c])) ∧
  (∀ s, s < 20 → h[7 + 3 * s]? = some (gEs S s) ∧ h[8 + 3 * s]? = some (gEt S s) ∧ h[9 + 3 * s]? = some (pm_Dd 16 (gC S s))) ∧
  (∀ n, n < 14 → h[67 + 2 * n]? = some (gEn S n) ∧ h[68 + 2 * n]? = some (pm_I 3 (gA S n)))
/-- what is not the class's stays -/
def gFr (h h' : pm_H) : Prop := h'.length = h.length ∧ ∀ k, 95 ≤ k → h'[k]? = h[k]?
theorem gFr.rf (h : pm_H) : gFr h h := ⟨rfl, fun _ _ => rfl⟩
theorem gFr.tr {a b c : pm_H} (h1 : gFr a b) (h2 : gFr b c) : gFr a c := ⟨h2.1.trans h1.1, fun k hk => (h2.2 k hk).trans (h1.2 k hk)⟩
theorem gFr.set (h : pm_H) {a : Nat} (c : va_E) (ha : a < 95) : gFr h (h.set a c) := ⟨List.length_set, fun k hk => List.getElem?_set_ne (by omega)⟩
theorem g_sn {h : pm_H} {a k : Nat} {c e : va_E} (hk : h[k]? = some e) (hne : a ≠ k) : (h.set a c)[k]? = some e := by rw [List.getElem?_set_ne hne]; exact hk
theorem g_ss {h : pm_H} {a : Nat} {c e : va_E} (hk : h[a]? = some e) : (h.set a c)[a]? = some c := List.getElem?_set_self (List.getElem?_eq_some_iff.mp hk).1
theorem g_nI (f : Nat → Nat) (k v : Nat) : va_up (fun j => nI (f j)) k (nI v) = fun j => nI (va_up f k v j) := by
  funext j
  simp only [va_up]
  split <;> rfl
def gsG (S : gS) (k v : Nat) : gS := (va_up S.1 k v, S.2)
def gsO (S : gS) (k v : Nat) : gS := (S.1, va_up S.2.1 k v, S.2.2)
def gsP (S : gS) (k v : Nat) : gS := (S.1, S.2.1, va_up S.2.2.1 k v, S.2.2.2)
def gsK (S : gS) (i k v : Nat) : gS := (S.1, S.2.1, S.2.2.1, g_up2 S.2.2.2.1 i k v, S.2.2.2.2)
def gsT (S : gS) (i k v : Nat) : gS := (S.1, S.2.1, S.2.2.1, S.2.2.2.1, g_up2 S.2.2.2.2.1 i k v, S.2.2.2.2.2)
def gsC (S : gS) (i : Nat) (f : Nat → UInt64) : gS := (S.1, S.2.1, S.2.2.1, S.2.2.2.1, S.2.2.2.2.1, va_up S.2.2.2.2.2.1 i f, S.2.2.2.2.2.2)
def gsN (S : gS) (i k v : Nat) : gS := (S.1, S.2.1, S.2.2.1, S.2.2.2.1, S.2.2.2.2.1, S.2.2.2.2.2.1, g_up2 S.2.2.2.2.2.2.1 i k v, S.2.2.2.2.2.2.2)
def gsQ (S : gS) (i k : Nat) (v : Int32) : gS := (S.1, S.2.1, S.2.2.1, S.2.2.2.1, S.2.2.2.2.1, S.2.2.2.2.2.1, S.2.2.2.2.2.2.1, g_up2 S.2.2.2.2.2.2.2.1 i k v, S.2.2.2.2.2.2.2.2)
def gsA (S : gS) (i : Nat) (f : Nat → Int32) : gS := (S.1, S.2.1, S.2.2.1, S.2.2.2.1, S.2.2.2.2.1, S.2.2.2.2.2.1, S.2.2.2.2.2.2.1, S.2.2.2.2.2.2.2.1, va_up S.2.2.2.2.2.2.2.2 i f)
theorem gH.G0 {S : gS} {h : pm_H} {v : Nat} (H : gH S h)  : gH (gsG S 0 v) (h.set (0) (pm_Ob 3 [.ref 1, .ref 2, .ref 3, .ref 4, .ref 5, .int (nI v), .int (nI (gG S 1)), .int (nI (gG S 2)), .int (nI (gG S 3))])) := by
  obtain ⟨h0, ⟨f1, h1, g1⟩, ⟨f2, h2, g2⟩, h3, h4, ⟨t5, r5, c5, h5⟩, hs, hn⟩ := H
  refine ⟨?_, ⟨f1, g_sn h1 (by omega), g1⟩, ⟨f2, g_sn h2 (by omega), g2⟩, g_sn h3 (by omega), g_sn h4 (by omega), ⟨t5, r5, c5, g_sn h5 (by omega)⟩, fun x hx => ⟨g_sn (hs x hx).1 (by omega), g_sn (hs x hx).2.1 (by omega), g_sn (hs x hx).2.2 (by omega)⟩, fun x hx => ⟨g_sn (hn x hx).1 (by omega), g_sn (hn x hx).2 (by omega)⟩⟩
  rw [g_ss h0]
  simp [gsG, gG, va_up]
theorem gH.G1 {S : gS} {h : pm_H} {v : Nat} (H : gH S h)  : gH (gsG S 1 v) (h.set (0) (pm_Ob 3 [.ref 1, .ref 2, .ref 3, .ref 4, .ref 5, .int (nI (gG S 0)), .int (nI v), .int (nI (gG S 2)), .int (nI (gG S 3))])) := by
  obtain ⟨h0, ⟨f1, h1, g1⟩, ⟨f2, h2, g2⟩, h3, h4, ⟨t5, r5, c5, h5⟩, hs, hn⟩ := H
  refine ⟨?_, ⟨f1, g_sn h1 (by omega), g1⟩, ⟨f2, g_sn h2 (by omega), g2⟩, g_sn h3 (by omega), g_sn h4 (by omega), ⟨t5, r5, c5, g_sn h5 (by omega)⟩, fun x hx => ⟨g_sn (hs x hx).1 (by omega), g_sn (hs x hx).2.1 (by omega), g_sn (hs x hx).2.2 (by omega)⟩, fun x hx => ⟨g_sn (hn x hx).1 (by omega), g_sn (hn x hx).2 (by omega)⟩⟩
  rw [g_ss h0]
  simp [gsG, gG, va_up]
theorem gH.G2 {S : gS} {h : pm_H} {v : Nat} (H : gH S h)  : gH (gsG S 2 v) (h.set (0) (pm_Ob 3 [.ref 1, .ref 2, .ref 3, .ref 4, .ref 5, .int (nI (gG S 0)), .int (nI (gG S 1)), .int (nI v), .int (nI (gG S 3))])) := by
  obtain ⟨h0, ⟨f1, h1, g1⟩, ⟨f2, h2, g2⟩, h3, h4, ⟨t5, r5, c5, h5⟩, hs, hn⟩ := H
  refine ⟨?_, ⟨f1, g_sn h1 (by omega), g1⟩, ⟨f2, g_sn h2 (by omega), g2⟩, g_sn h3 (by omega), g_sn h4 (by omega), ⟨t5, r5, c5, g_sn h5 (by omega)⟩, fun x hx => ⟨g_sn (hs x hx).1 (by omega), g_sn (hs x hx).2.1 (by omega), g_sn (hs x hx).2.2 (by omega)⟩, fun x hx => ⟨g_sn (hn x hx).1 (by omega), g_sn (hn x hx).2 (by omega)⟩⟩
  rw [g_ss h0]
  simp [gsG, gG, va_up]
theorem gH.G3 {S : gS} {h : pm_H} {v : Nat} (H : gH S h)  : gH (gsG S 3 v) (h.set (0) (pm_Ob 3 [.ref 1, .ref 2, .ref 3, .ref 4, .ref 5, .int (nI (gG S 0)), .int (nI (gG S 1)), .int (nI (gG S 2)), .int (nI v)])) := by
  obtain ⟨h0, ⟨f1, h1, g1⟩, ⟨f2, h2, g2⟩, h3, h4, ⟨t5, r5, c5, h5⟩, hs, hn⟩ := H
  refine ⟨?_, ⟨f1, g_sn h1 (by omega), g1⟩, ⟨f2, g_sn h2 (by omega), g2⟩, g_sn h3 (by omega), g_sn h4 (by omega), ⟨t5, r5, c5, g_sn h5 (by omega)⟩, fun x hx => ⟨g_sn (hs x hx).1 (by omega), g_sn (hs x hx).2.1 (by omega), g_sn (hs x hx).2.2 (by omega)⟩, fun x hx => ⟨g_sn (hn x hx).1 (by omega), g_sn (hn x hx).2 (by omega)⟩⟩
  rw [g_ss h0]
  simp [gsG, gG, va_up]
theorem gH.O {S : gS} {h : pm_H} {k v : Nat} (H : gH S h)  : gH (gsO S k v) (h.set (3) (pm_I 14 (va_up (fun j => nI (gO S j)) k (nI v)))) := by
  obtain ⟨h0, ⟨f1, h1, g1⟩, ⟨f2, h2, g2⟩, h3, h4, ⟨t5, r5, c5, h5⟩, hs, hn⟩ := H
  refine ⟨g_sn h0 (by omega), ⟨f1, g_sn h1 (by omega), g1⟩, ⟨f2, g_sn h2 (by omega), g2⟩, ?_, g_sn h4 (by omega), ⟨t5, r5, c5, g_sn h5 (by omega)⟩, fun x hx => ⟨g_sn (hs x hx).1 (by omega), g_sn (hs x hx).2.1 (by omega), g_sn (hs x hx).2.2 (by omega)⟩, fun x hx => ⟨g_sn (hn x hx).1 (by omega), g_sn (hn x hx).2 (by omega)⟩⟩
  rw [g_ss h3, g_nI]
  rfl
theorem gH.P {S : gS} {h : pm_H} {k v : Nat} (H : gH S h)  : gH (gsP S k v) (h.set (4) (pm_I 14 (va_up (fun j => nI (gP S j)) k (nI v)))) := by
  obtain ⟨h0, ⟨f1, h1, g1⟩, ⟨f2, h2, g2⟩, h3, h4, ⟨t5, r5, c5, h5⟩, hs, hn⟩ := H
  refine ⟨g_sn h0 (by omega), ⟨f1, g_sn h1 (by omega), g1⟩, ⟨f2, g_sn h2 (by omega), g2⟩, g_sn h3 (by omega), ?_, ⟨t5, r5, c5, g_sn h5 (by omega)⟩, fun x hx => ⟨g_sn (hs x hx).1 (by omega), g_sn (hs x hx).2.1 (by omega), g_sn (hs x hx).2.2 (by omega)⟩, fun x hx => ⟨g_sn (hn x hx).1 (by omega), g_sn (hn x hx).2 (by omega)⟩⟩
  rw [g_ss h4, g_nI]
  rfl
theorem gH.K0 {S : gS} {h : pm_H} {i v : Nat} (H : gH S h) (hi : i < 20) : gH (gsK S i 0 v) (h.set (7 + 3 * i) (pm_Ob 1 [.ref (8 + 3 * i), .int (nI v), .int (nI (gK S i 1))])) := by
  obtain ⟨h0, ⟨f1, h1, g1⟩, ⟨f2, h2, g2⟩, h3, h4, ⟨t5, r5, c5, h5⟩, hs, hn⟩ := H
  refine ⟨g_sn h0 (by omega), ⟨f1, g_sn h1 (by omega), g1⟩, ⟨f2, g_sn h2 (by omega), g2⟩, g_sn h3 (by omega), g_sn h4 (by omega), ⟨t5, r5, c5, g_sn h5 (by omega)⟩, ?_, fun x hx => ⟨g_sn (hn x hx).1 (by omega), g_sn (hn x hx).2 (by omega)⟩⟩
  intro x hx
  by_cases e : x = i
  · subst e
    refine ⟨?_, g_sn (hs x hx).2.1 (by omega), g_sn (hs x hx).2.2 (by omega)⟩
    rw [g_ss (hs x hx).1]
    simp [gsK, gK, g_up2]
  · refine ⟨?_, g_sn (hs x hx).2.1 (by omega), g_sn (hs x hx).2.2 (by omega)⟩
    rw [g_sn (hs x hx).1 (by omega)]
    simp [gsK, gK, g_up2, e]
theorem gH.K1 {S : gS} {h : pm_H} {i v : Nat} (H : gH S h) (hi : i < 20) : gH (gsK S i 1 v) (h.set (7 + 3 * i) (pm_Ob 1 [.ref (8 + 3 * i), .int (nI (gK S i 0)), .int (nI v)])) := by
  obtain ⟨h0, ⟨f1, h1, g1⟩, ⟨f2, h2, g2⟩, h3, h4, ⟨t5, r5, c5, h5⟩, hs, hn⟩ := H
  refine ⟨g_sn h0 (by omega), ⟨f1, g_sn h1 (by omega), g1⟩, ⟨f2, g_sn h2 (by omega), g2⟩, g_sn h3 (by omega), g_sn h4 (by omega), ⟨t5, r5, c5, g_sn h5 (by omega)⟩, ?_, fun x hx => ⟨g_sn (hn x hx).1 (by omega), g_sn (hn x hx).2 (by omega)⟩⟩
  intro x hx
  by_cases e : x = i
  · subst e
    refine ⟨?_, g_sn (hs x hx).2.1 (by omega), g_sn (hs x hx).2.2 (by omega)⟩
    rw [g_ss (hs x hx).1]
    simp [gsK, gK, g_up2]
  · refine ⟨?_, g_sn (hs x hx).2.1 (by omega), g_sn (hs x hx).2.2 (by omega)⟩
    rw [g_sn (hs x hx).1 (by omega)]
    simp [gsK, gK, g_up2, e]
theorem gH.T0 {S : gS} {h : pm_H} {i v : Nat} (H : gH S h) (hi : i < 20) : gH (gsT S i 0 v) (h.set (8 + 3 * i) (pm_Ob 2 [.ref (9 + 3 * i), .int (nI v), .int (nI (gT S i 1)), .int (nI (gT S i 2))])) := by
  obtain ⟨h0, ⟨f1, h1, g1⟩, ⟨f2, h2, g2⟩, h3, h4, ⟨t5, r5, c5, h5⟩, hs, hn⟩ := H
  refine ⟨g_sn h0 (by omega), ⟨f1, g_sn h1 (by omega), g1⟩, ⟨f2, g_sn h2 (by omega), g2⟩, g_sn h3 (by omega), g_sn h4 (by omega), ⟨t5, r5, c5, g_sn h5 (by omega)⟩, ?_, fun x hx => ⟨g_sn (hn x hx).1 (by omega), g_sn (hn x hx).2 (by omega)⟩⟩
  intro x hx
  by_cases e : x = i
  · subst e
    refine ⟨g_sn (hs x hx).1 (by omega), ?_, g_sn (hs x hx).2.2 (by omega)⟩
    rw [g_ss (hs x hx).2.1]
    simp [gsT, gT, g_up2]
  · refine ⟨g_sn (hs x hx).1 (by omega), ?_, g_sn (hs x hx).2.2 (by omega)⟩
    rw [g_sn (hs x hx).2.1 (by omega)]
    simp [gsT, gT, g_up2, e]
theorem gH.T1 {S : gS} {h : pm_H} {i v : Nat} (H : gH S h) (hi : i < 20) : gH (gsT S i 1 v) (h.set (8 + 3 * i) (pm_Ob 2 [.ref (9 + 3 * i), .int (nI (gT S i 0)), .int (nI v), .int (nI (gT S i 2))])) := by
  obtain ⟨h0, ⟨f1, h1, g1⟩, ⟨f2, h2, g2⟩, h3, h4, ⟨t5, r5, c5, h5⟩, hs, hn⟩ := H
  refine ⟨g_sn h0 (by omega), ⟨f1, g_sn h1 (by omega), g1⟩, ⟨f2, g_sn h2 (by omega), g2⟩, g_sn h3 (by omega), g_sn h4 (by omega), ⟨t5, r5, c5, g_sn h5 (by omega)⟩, ?_, fun x hx => ⟨g_sn (hn x hx).1 (by omega), g_sn (hn x hx).2 (by omega)⟩⟩
  intro x hx
  by_cases e : x = i
  · subst e
    refine ⟨g_sn (hs x hx).1 (by omega), ?_, g_sn (hs x hx).2.2 (by omega)⟩
    rw [g_ss (hs x hx).2.1]
    simp [gsT, gT, g_up2]
  · refine ⟨g_sn (hs x hx).1 (by omega), ?_, g_sn (hs x hx).2.2 (by omega)⟩
    rw [g_sn (hs x hx).2.1 (by omega)]
    simp [gsT, gT, g_up2, e]
theorem gH.T2 {S : gS} {h : pm_H} {i v : Nat} (H : gH S h) (hi : i < 20) : gH (gsT S i 2 v) (h.set (8 + 3 * i) (pm_Ob 2 [.ref (9 + 3 * i), .int (nI (gT S i 0)), .int (nI (gT S i 1)), .int (nI v)])) := by
  obtain ⟨h0, ⟨f1, h1, g1⟩, ⟨f2, h2, g2⟩, h3, h4, ⟨t5, r5, c5, h5⟩, hs, hn⟩ := H
  refine ⟨g_sn h0 (by omega), ⟨f1, g_sn h1 (by omega), g1⟩, ⟨f2, g_sn h2 (by omega), g2⟩, g_sn h3 (by omega), g_sn h4 (by omega), ⟨t5, r5, c5, g_sn h5 (by omega)⟩, ?_, fun x hx => ⟨g_sn (hn x hx).1 (by omega), g_sn (hn x hx).2 (by omega)⟩⟩
  intro x hx
  by_cases e : x = i
  · subst e
    refine ⟨g_sn (hs x hx).1 (by omega), ?_, g_sn (hs x hx).2.2 (by omega)⟩
    rw [g_ss (hs x hx).2.1]
    simp [gsT, gT, g_up2]
  · refine ⟨g_sn (hs x hx).1 (by omega), ?_, g_sn (hs x hx).2.2 (by omega)⟩
    rw [g_sn (hs x hx).2.1 (by omega)]
    simp [gsT, gT, g_up2, e]
theorem gH.C {S : gS} {h : pm_H} {i : Nat} {f : Nat → UInt64} (H : gH S h) (hi : i < 20) : gH (gsC S i f) (h.set (9 + 3 * i) (pm_Dd 16 f)) := by
  obtain ⟨h0, ⟨f1, h1, g1⟩, ⟨f2, h2, g2⟩, h3, h4, ⟨t5, r5, c5, h5⟩, hs, hn⟩ := H
  refine ⟨g_sn h0 (by omega), ⟨f1, g_sn h1 (by omega), g1⟩, ⟨f2, g_sn h2 (by omega), g2⟩, g_sn h3 (by omega), g_sn h4 (by omega), ⟨t5, r5, c5, g_sn h5 (by omega)⟩, ?_, fun x hx => ⟨g_sn (hn x hx).1 (by omega), g_sn (hn x hx).2 (by omega)⟩⟩
  intro x hx
  by_cases e : x = i
  · subst e
    refine ⟨g_sn (hs x hx).1 (by omega), g_sn (hs x hx).2.1 (by omega), ?_⟩
    rw [g_ss (hs x hx).2.2]
    simp [gsC, gC, va_up]
  · refine ⟨g_sn (hs x hx).1 (by omega), g_sn (hs x hx).2.1 (by omega), ?_⟩
    rw [g_sn (hs x hx).2.2 (by omega)]
    simp [gsC, gC, va_up, e]
theorem gH.N0 {S : gS} {h : pm_H} {i : Nat} {v : Nat} (H : gH S h) (hi : i < 14) : gH (gsN S i 0 v) (h.set (67 + 2 * i) (pm_Ob 0 [.ref (68 + 2 * i), .int (nI v), .int (nI (gN S i 1)), .int (nI (gN S i 2)), .int (gQ S i 0), .int (gQ S i 1), .int (nI (gN S i 3)), .int (nI (gN S i 4)), .int (nI (gN S i 5))])) := by
  obtain ⟨h0, ⟨f1, h1, g1⟩, ⟨f2, h2, g2⟩, h3, h4, ⟨t5, r5, c5, h5⟩, hs, hn⟩ := H
  refine ⟨g_sn h0 (by omega), ⟨f1, g_sn h1 (by omega), g1⟩, ⟨f2, g_sn h2 (by omega), g2⟩, g_sn h3 (by omega), g_sn h4 (by omega), ⟨t5, r5, c5, g_sn h5 (by omega)⟩, fun x hx => ⟨g_sn (hs x hx).1 (by omega), g_sn (hs x hx).2.1 (by omega), g_sn (hs x hx).2.2 (by omega)⟩, ?_⟩
  intro x hx
  by_cases e : x = i
  · subst e
    refine ⟨?_, g_sn (hn x hx).2 (by omega)⟩
    rw [g_ss (hn x hx).1]
    simp [gsN, gN, gQ, g_up2]
  · refine ⟨?_, g_sn (hn x hx).2 (by omega)⟩
    rw [g_sn (hn x hx).1 (by omega)]
    simp [gsN, gN, gQ, g_up2, e]
theorem gH.N1 {S : gS} {h : pm_H} {i : Nat} {v : Nat} (H : gH S h) (hi : i < 14) : gH (gsN S i 1 v) (h.set (67 + 2 * i) (pm_Ob 0 [.ref (68 + 2 * i), .int (nI (gN S i 0)), .int (nI v), .int (nI (gN S i 2)), .int (gQ S i 0), .int (gQ S i 1), .int (nI (gN S i 3)), .int (nI (gN S i 4)), .int (nI (gN S i 5))])) := by
  obtain ⟨h0, ⟨f1, h1, g1⟩, ⟨f2, h2, g2⟩, h3, h4, ⟨t5, r5, c5, h5⟩, hs, hn⟩ := H
  refine ⟨g_sn h0 (by omega), ⟨f1, g_sn h1 (by omega), g1⟩, ⟨f2, g_sn h2 (by omega), g2⟩, g_sn h3 (by omega), g_sn h4 (by omega), ⟨t5, r5, c5, g_sn h5 (by omega)⟩, fun x hx => ⟨g_sn (hs x hx).1 (by omega), g_sn (hs x hx).2.1 (by omega), g_sn (hs x hx).2.2 (by omega)⟩, ?_⟩
  intro x hx
  by_cases e : x = i
  · subst e
    refine ⟨?_, g_sn (hn x hx).2 (by omega)⟩
    rw [g_ss (hn x hx).1]
    simp [gsN, gN, gQ, g_up2]
  · refine ⟨?_, g_sn (hn x hx).2 (by omega)⟩
    rw [g_sn (hn x hx).1 (by omega)]
    simp [gsN, gN, gQ, g_up2, e]
theorem gH.N2 {S : gS} {h : pm_H} {i : Nat} {v : Nat} (H : gH S h) (hi : i < 14) : gH (gsN S i 2 v) (h.set (67 + 2 * i) (pm_Ob 0 [.ref (68 + 2 * i), .int (nI (gN S i 0)), .int (nI (gN S i 1)), .int (nI v), .int (gQ S i 0), .int (gQ S i 1), .int (nI (gN S i 3)), .int (nI (gN S i 4)), .int (nI (gN S i 5))])) := by
  obtain ⟨h0, ⟨f1, h1, g1⟩, ⟨f2, h2, g2⟩, h3, h4, ⟨t5, r5, c5, h5⟩, hs, hn⟩ := H
  refine ⟨g_sn h0 (by omega), ⟨f1, g_sn h1 (by omega), g1⟩, ⟨f2, g_sn h2 (by omega), g2⟩, g_sn h3 (by omega), g_sn h4 (by omega), ⟨t5, r5, c5, g_sn h5 (by omega)⟩, fun x hx => ⟨g_sn (hs x hx).1 (by omega), g_sn (hs x hx).2.1 (by omega), g_sn (hs x hx).2.2 (by omega)⟩, ?_⟩
  intro x hx
  by_cases e : x = i
  · subst e
    refine ⟨?_, g_sn (hn x hx).2 (by omega)⟩
    rw [g_ss (hn x hx).1]
    simp [gsN, gN, gQ, g_up2]
  · refine ⟨?_, g_sn (hn x hx).2 (by omega)⟩
    rw [g_sn (hn x hx).1 (by omega)]
    simp [gsN, gN, gQ, g_up2, e]
theorem gH.Q0 {S : gS} {h : pm_H} {i : Nat} {v : Int32} (H : gH S h) (hi : i < 14) : gH (gsQ S i 0 v) (h.set (67 + 2 * i) (pm_Ob 0 [.ref (68 + 2 * i), .int (nI (gN S i 0)), .int (nI (gN S i 1)), .int (nI (gN S i 2)), .int v, .int (gQ S i 1), .int (nI (gN S i 3)), .int (nI (gN S i 4)), .int (nI (gN S i 5))])) := by
  obtain ⟨h0, ⟨f1, h1, g1⟩, ⟨f2, h2, g2⟩, h3, h4, ⟨t5, r5, c5, h5⟩, hs, hn⟩ := H
  refine ⟨g_sn h0 (by omega), ⟨f1, g_sn h1 (by omega), g1⟩, ⟨f2, g_sn h2 (by omega), g2⟩, g_sn h3 (by omega), g_sn h4 (by omega), ⟨t5, r5, c5, g_sn h5 (by omega)⟩, fun x hx => ⟨g_sn (hs x hx).1 (by omega), g_sn (hs x hx).2.1 (by omega), g_sn (hs x hx).2.2 (by omega)⟩, ?_⟩
  intro x hx
  by_cases e : x = i
  · subst e
    refine ⟨?_, g_sn (hn x hx).2 (by omega)⟩
    rw [g_ss (hn x hx).1]
    simp [gsQ, gN, gQ, g_up2]
  · refine ⟨?_, g_sn (hn x hx).2 (by omega)⟩
    rw [g_sn (hn x hx).1 (by omega)]
    simp [gsQ, gN, gQ, g_up2, e]
theorem gH.Q1 {S : gS} {h : pm_H} {i : Nat} {v : Int32} (H : gH S h) (hi : i < 14) : gH (gsQ S i 1 v) (h.set (67 + 2 * i) (pm_Ob 0 [.ref (68 + 2 * i), .int (nI (gN S i 0)), .int (nI (gN S i 1)), .int (nI (gN S i 2)), .int (gQ S i 0), .int v, .int (nI (gN S i 3)), .int (nI (gN S i 4)), .int (nI (gN S i 5))])) := by
  obtain ⟨h0, ⟨f1, h1, g1⟩, ⟨f2, h2, g2⟩, h3, h4, ⟨t5, r5, c5, h5⟩, hs, hn⟩ := H
  refine ⟨g_sn h0 (by omega), ⟨f1, g_sn h1 (by omega), g1⟩, ⟨f2, g_sn h2 (by omega), g2⟩, g_sn h3 (by omega), g_sn h4 (by omega), ⟨t5, r5, c5, g_sn h5 (by omega)⟩, fun x hx => ⟨g_sn (hs x hx).1 (by omega), g_sn (hs x hx).2.1 (by omega), g_sn (hs x hx).2.2 (by omega)⟩, ?_⟩
  intro x hx
  by_cases e : x = i
  · subst e
    refine ⟨?_, g_sn (hn x hx).2 (by omega)⟩
    rw [g_ss (hn x hx).1]
    simp [gsQ, gN, gQ, g_up2]
  · refine ⟨?_, g_sn (hn x hx).2 (by omega)⟩
    rw [g_sn (hn x hx).1 (by omega)]
    simp [gsQ, gN, gQ, g_up2, e]
theorem gH.N3 {S : gS} {h : pm_H} {i : Nat} {v : Nat} (H : gH S h) (hi : i < 14) : gH (gsN S i 3 v) (h.set (67 + 2 * i) (pm_Ob 0 [.ref (68 + 2 * i), .int (nI (gN S i 0)), .int (nI (gN S i 1)), .int (nI (gN S i 2)), .int (gQ S i 0), .int (gQ S i 1), .int (nI v), .int (nI (gN S i 4)), .int (nI (gN S i 5))])) := by
  obtain ⟨h0, ⟨f1, h1, g1⟩, ⟨f2, h2, g2⟩, h3, h4, ⟨t5, r5, c5, h5⟩, hs, hn⟩ := H
  refine ⟨g_sn h0 (by omega), ⟨f1, g_sn h1 (by omega), g1⟩, ⟨f2, g_sn h2 (by omega), g2⟩, g_sn h3 (by omega), g_sn h4 (by omega), ⟨t5, r5, c5, g_sn h5 (by omega)⟩, fun x hx => ⟨g_sn (hs x hx).1 (by omega), g_sn (hs x hx).2.1 (by omega), g_sn (hs x hx).2.2 (by omega)⟩, ?_⟩
  intro x hx
  by_cases e : x = i
  · subst e
    refine ⟨?_, g_sn (hn x hx).2 (by omega)⟩
    rw [g_ss (hn x hx).1]
    simp [gsN, gN, gQ, g_up2]
  · refine ⟨?_, g_sn (hn x hx).2 (by omega)⟩
    rw [g_sn (hn x hx).1 (by omega)]
    simp [gsN, gN, gQ, g_up2, e]
theorem gH.N4 {S : gS} {h : pm_H} {i : Nat} {v : Nat} (H : gH S h) (hi : i < 14) : gH (gsN S i 4 v) (h.set (67 + 2 * i) (pm_Ob 0 [.ref (68 + 2 * i), .int (nI (gN S i 0)), .int (nI (gN S i 1)), .int (nI (gN S i 2)), .int (gQ S i 0), .int (gQ S i 1), .int (nI (gN S i 3)), .int (nI v), .int (nI (gN S i 5))])) := by
  obtain ⟨h0, ⟨f1, h1, g1⟩, ⟨f2, h2, g2⟩, h3, h4, ⟨t5, r5, c5, h5⟩, hs, hn⟩ := H
  refine ⟨g_sn h0 (by omega), ⟨f1, g_sn h1 (by omega), g1⟩, ⟨f2, g_sn h2 (by omega), g2⟩, g_sn h3 (by omega), g_sn h4 (by omega), ⟨t5, r5, c5, g_sn h5 (by omega)⟩, fun x hx => ⟨g_sn (hs x hx).1 (by omega), g_sn (hs x hx).2.1 (by omega), g_sn (hs x hx).2.2 (by omega)⟩, ?_⟩
  intro x hx
  by_cases e : x = i
  · subst e
    refine ⟨?_, g_sn (hn x hx).2 (by omega)⟩
    rw [g_ss (hn x hx).1]
    simp [gsN, gN, gQ, g_up2]
  · refine ⟨?_, g_sn (hn x hx).2 (by omega)⟩
    rw [g_sn (hn x hx).1 (by omega)]
    simp [gsN, gN, gQ, g_up2, e]
theorem gH.N5 {S : gS} {h : pm_H} {i : Nat} {v : Nat} (H : gH S h) (hi : i < 14) : gH (gsN S i 5 v) (h.set (67 + 2 * i) (pm_Ob 0 [.ref (68 + 2 * i), .int (nI (gN S i 0)), .int (nI (gN S i 1)), .int (nI (gN S i 2)), .int (gQ S i 0), .int (gQ S i 1), .int (nI (gN S i 3)), .int (nI (gN S i 4)), .int (nI v)])) := by
  obtain ⟨h0, ⟨f1, h1, g1⟩, ⟨f2, h2, g2⟩, h3, h4, ⟨t5, r5, c5, h5⟩, hs, hn⟩ := H
  refine ⟨g_sn h0 (by omega), ⟨f1, g_sn h1 (by omega), g1⟩, ⟨f2, g_sn h2 (by omega), g2⟩, g_sn h3 (by omega), g_sn h4 (by omega), ⟨t5, r5, c5, g_sn h5 (by omega)⟩, fun x hx => ⟨g_sn (hs x hx).1 (by omega), g_sn (hs x hx).2.1 (by omega), g_sn (hs x hx).2.2 (by omega)⟩, ?_⟩
  intro x hx
  by_cases e : x = i
  · subst e
    refine ⟨?_, g_sn (hn x hx).2 (by omega)⟩
    rw [g_ss (hn x hx).1]
    simp [gsN, gN, gQ, g_up2]
  · refine ⟨?_, g_sn (hn x hx).2 (by omega)⟩
    rw [g_sn (hn x hx).1 (by omega)]
    simp [gsN, gN, gQ, g_up2, e]
theorem gH.A {S : gS} {h : pm_H} {i : Nat} {f : Nat → Int32} (H : gH S h) (hi : i < 14) : gH (gsA S i f) (h.set (68 + 2 * i) (pm_I 3 f)) := by
  obtain ⟨h0, ⟨f1, h1, g1⟩, ⟨f2, h2, g2⟩, h3, h4, ⟨t5, r5, c5, h5⟩, hs, hn⟩ := H
  refine ⟨g_sn h0 (by omega), ⟨f1, g_sn h1 (by omega), g1⟩, ⟨f2, g_sn h2 (by omega), g2⟩, g_sn h3 (by omega), g_sn h4 (by omega), ⟨t5, r5, c5, g_sn h5 (by omega)⟩, fun x hx => ⟨g_sn (hs x hx).1 (by omega), g_sn (hs x hx).2.1 (by omega), g_sn (hs x hx).2.2 (by omega)⟩, ?_⟩
  intro x hx
  by_cases e : x = i
  · subst e
    refine ⟨g_sn (hn x hx).1 (by omega), ?_⟩
    rw [g_ss (hn x hx).2]
    simp [gsA, gA, va_up]
  · refine ⟨g_sn (hn x hx).1 (by omega), ?_⟩
    rw [g_sn (hn x hx).2 (by omega)]
    simp [gsA, gA, va_up, e]
