/-! ===== the class: Shapes.find as one ===== -/
abbrev iN (x : Int32) : Nat := x.toInt.toNat
theorem nI_iN {x : Int32} (h : ¬ x < 0) : x = nI (iN x) := by
  have h1 : ¬ x.toInt < 0 := fun q => h (Int32.lt_iff_toInt_lt.mpr q)
  have h2 := x.toInt_lt
  apply Int32.toInt_inj.mp
  rw [nI_toInt (by simp only [iN]; omega)]
  simp only [iN]
  omega
theorem iN_le {x : Int32} {k : Nat} (hk : k < 1000) (h : x ≤ nI k) : iN x ≤ k := by
  have h1 := Int32.le_iff_toInt_le.mp h
  rw [nI_toInt (by omega)] at h1
  simp only [iN]; omega
theorem iN_mono {x y : Int32} (h : ¬ y < x) : iN x ≤ iN y := by
  have h1 : ¬ y.toInt < x.toInt := fun q => h (Int32.lt_iff_toInt_lt.mpr q)
  simp only [iN]; omega
def g_ok (y : Option (Nat × Nat × Nat)) : Prop := ∀ t r c, y = some (t, r, c) → t ≤ 1 ∧ (1 ≤ r ∧ r ≤ 4) ∧ 1 ≤ c ∧ c ≤ 4
theorem g_ok_none : g_ok none := fun _ _ _ q => nomatch q
theorem g_ok_sh {t r c : Nat} (ht : t ≤ 1) : g_ok (g_sh t r c) := by
  intro t1 r1 c1 q
  simp only [g_sh] at q
  split at q
  · cases q; exact ⟨ht, by assumption⟩
  · cases q
theorem g_ok_if {p : Prop} [Decidable p] {x y : Option (Nat × Nat × Nat)} (hx : g_ok x) (hy : g_ok y) : g_ok (if p then x else y) := by split <;> assumption
theorem gW.pt {S : gS} (hW : gW S) {j : Nat} {y : Option (Nat × Nat × Nat)} (hy : g_ok y) : gW (g_pt S j y) := by
  cases y with
  | none => exact hW
  | some y =>
    obtain ⟨t, r, c⟩ := y
    have q := hy t r c rfl
    exact hW.T q.1 q.2.1 q.2.2
theorem g_pt_pt (S : gS) (j : Nat) (x y : Nat × Nat × Nat) : g_pt (g_pt S j (some x)) j (some y) = g_pt S j (some y) := by
  obtain ⟨t, r, c⟩ := x
  obtain ⟨t1, r1, c1⟩ := y
  simp only [g_pt, gsT]
  have e : g_up2 (g_up2 (g_up2 (g_up2 (g_up2 (g_up2 S.2.2.2.2.1 j 0 t) j 1 r) j 2 c) j 0 t1) j 1 r1) j 2 c1 = g_up2 (g_up2 (g_up2 S.2.2.2.2.1 j 0 t1) j 1 r1) j 2 c1 := by
    funext a b
    simp only [g_up2]
    repeat' split
    all_goals first | rfl | omega
  rw [e]
theorem g_pt_T (S : gS) (j : Nat) (x : Nat × Nat × Nat) : gT (g_pt S j (some x)) j 0 = x.1 ∧ gT (g_pt S j (some x)) j 1 = x.2.1 ∧ gT (g_pt S j (some x)) j 2 = x.2.2 := by
  obtain ⟨t, r, c⟩ := x
  simp [g_pt, gsT, gT, g_up2]
theorem g_pt_n (S : gS) (j : Nat) (y : Option (Nat × Nat × Nat)) {i : Nat} (h : i ≠ j) (k : Nat) : gT (g_pt S j y) i k = gT S i k := by
  cases y with
  | none => rfl
  | some y => obtain ⟨t, r, c⟩ := y; simp [g_pt, gsT, gT, g_up2, h]
def g_f9 (S : gS) (a c : Nat) : Option (Nat × Nat × Nat) → Option (Nat × Nat × Nat)
  | none => none
  | some x => if (x.2.1 = gT S c 1 ∨ x.2.1 = 1 ∨ gT S c 1 = 1) ∧ (x.2.2 = gT S c 2 ∨ x.2.2 = 1 ∨ gT S c 2 = 1) then g_sh (gT S a 0) (max x.2.1 (gT S c 1)) (max x.2.2 (gT S c 2)) else none
/-- the type and shape of node n's outcome, its arguments being the slots a, b, c -/
def g_fx (S : gS) (n a b c : Nat) : Option (Nat × Nat × Nat) := match gN S n 1 with
  | 0 => if gT S a 0 = gT S b 0 then if (gT S a 1 = gT S b 1 ∨ gT S a 1 = 1 ∨ gT S b 1 = 1) ∧ (gT S a 2 = gT S b 2 ∨ gT S a 2 = 1 ∨ gT S b 2 = 1) then g_sh (gT S a 0) (max (gT S a 1) (gT S b 1)) (max (gT S a 2) (gT S b 2)) else none else none
  | 1 => if gT S a 0 = gT S b 0 then if (gT S a 1 = gT S b 1 ∨ gT S a 1 = 1 ∨ gT S b 1 = 1) ∧ (gT S a 2 = gT S b 2 ∨ gT S a 2 = 1 ∨ gT S b 2 = 1) then g_sh (gT S a 0) (max (gT S a 1) (gT S b 1)) (max (gT S a 2) (gT S b 2)) else none else none
  | 2 => if gT S a 0 = gT S b 0 then if (gT S a 1 = gT S b 1 ∨ gT S a 1 = 1 ∨ gT S b 1 = 1) ∧ (gT S a 2 = gT S b 2 ∨ gT S a 2 = 1 ∨ gT S b 2 = 1) then g_sh (gT S a 0) (max (gT S a 1) (gT S b 1)) (max (gT S a 2) (gT S b 2)) else none else none
  | 3 => if gT S a 0 = gT S b 0 then if (gT S a 1 = gT S b 1 ∨ gT S a 1 = 1 ∨ gT S b 1 = 1) ∧ (gT S a 2 = gT S b 2 ∨ gT S a 2 = 1 ∨ gT S b 2 = 1) then g_sh (gT S a 0) (max (gT S a 1) (gT S b 1)) (max (gT S a 2) (gT S b 2)) else none else none
  | 4 => if (gT S a 0 = 0 ∧ gT S b 0 = 0) ∧ gT S a 2 = gT S b 1 then g_sh 0 (gT S a 1) (gT S b 2) else none
  | 5 => if gT S a 0 = 0 then g_sh 0 (gT S a 1) (gT S a 2) else none
  | 6 => g_sh (gT S a 0) (gT S a 2) (gT S a 1)
  | 7 => if gQ S n 0 = 0 ∨ gQ S n 0 = 1 then g_sh (iN (gQ S n 0)) (gT S a 1) (gT S a 2) else none
  | 8 => if gT S a 0 = gT S b 0 then if (gT S a 1 = gT S b 1 ∨ gT S a 1 = 1 ∨ gT S b 1 = 1) ∧ (gT S a 2 = gT S b 2 ∨ gT S a 2 = 1 ∨ gT S b 2 = 1) then g_sh (1) (max (gT S a 1) (gT S b 1)) (max (gT S a 2) (gT S b 2)) else none else none
  | 9 => if gT S c 0 = 1 ∧ gT S a 0 = gT S b 0 then g_f9 S a c (if (gT S a 1 = gT S b 1 ∨ gT S a 1 = 1 ∨ gT S b 1 = 1) ∧ (gT S a 2 = gT S b 2 ∨ gT S a 2 = 1 ∨ gT S b 2 = 1) then g_sh (gT S a 0) (max (gT S a 1) (gT S b 1)) (max (gT S a 2) (gT S b 2)) else none) else none
  | 10 => if gQ S n 0 = 0 then g_sh (gT S a 0) 1 (gT S a 2) else if gQ S n 0 = 1 then g_sh (gT S a 0) (gT S a 1) 1 else none
  | 11 => if gQ S n 0 = 0 then g_sh (gT S a 0) 1 (gT S a 2) else if gQ S n 0 = 1 then g_sh (gT S a 0) (gT S a 1) 1 else none
  | 12 => g_sh 1 (gT S a 1) 1
  | 13 => if gT S a 0 = gT S b 0 then if gQ S n 0 = 0 then if gT S a 2 = gT S b 2 then g_sh (gT S a 0) (gT S a 1 + gT S b 1) (gT S a 2) else none else if gQ S n 0 = 1 then if gT S a 1 = gT S b 1 then g_sh (gT S a 0) (gT S a 1) (gT S a 2 + gT S b 2) else none else none else none
  | 14 => if ¬ gQ S n 0 < 0 ∧ ¬ gQ S n 1 < gQ S n 0 then (if iN (gQ S n 1) < gT S a 1 then g_sh (gT S a 0) (iN (gQ S n 1) - iN (gQ S n 0) + 1) (gT S a 2) else none) else none
  | 15 => if gT S b 0 = 1 ∧ gT S b 1 = 1 then g_sh (gT S a 0) (gT S b 2) (gT S a 2) else none
  | 16 => if (gT S a 0 = 0 ∧ gT S b 0 = 0) ∧ gT S b 1 = 1 then if (¬ gQ S n 0 < 1 ∧ ¬ 2 < gQ S n 0 ∧ ¬ gQ S n 1 < 0 ∧ gQ S n 1 ≤ 2) then (if gT S b 2 ≤ gT S a 2 + 2 * iN (gQ S n 1) then g_sh 0 (gT S a 1) ((gT S a 2 + 2 * iN (gQ S n 1) - gT S b 2) / iN (gQ S n 0) + 1) else none) else none else none
  | 17 => if gT S c 0 = 1 ∧ gT S c 1 = 1 ∧ gT S c 2 = 1 ∧ (gT S a 0 = gT S b 0 ∧ gT S a 1 = gT S b 1 ∧ gT S a 2 = gT S b 2) then g_sh (gT S a 0) (gT S a 1) (gT S a 2) else none
  | 18 => if gT S a 0 = 0 then g_sh 0 (gT S a 1) (gT S a 2) else none
  | _ => none
abbrev g_PF (S : gS) (j : Nat) (h : pm_H) (x : Option (Nat × Nat × Nat)) : pm_O × pm_H → Prop := fun r => r.1 = .inl (some (.int (if x.isSome = true then 1 else 0))) ∧ ∃ y, gH (g_pt S j y) r.2 ∧ gFr h r.2 ∧ g_ok y ∧ ∀ v, x = some v → y = some v
theorem g_PF_of {l : Launch} {G : pm_G} {fi : Bool} {M : pm_M} {av : List Value} {h : pm_H} {S : gS} {j : Nat} {x x' : Option (Nat × Nat × Nat)} (k : pm_Cn l G fi fi 0 0 M av h (g_PS S j h x)) (hx : g_ok x) (e : x' = x) : pm_Cn l G fi fi 0 0 M av h (g_PF S j h x') := by
  obtain ⟨r, ⟨h1, h2, h3⟩, k⟩ := k
  subst e
  exact ⟨r, ⟨h1, _, h2, h3, hx, fun v q => q⟩, k⟩
set_option maxHeartbeats 4000000 in
set_option maxRecDepth 20000 in
theorem c_find {l : Launch} {G : pm_G} {fi : Bool} {h : pm_H} {S : gS} {a b c o9 n xb xc : Nat} (hl : l.stackTraces = false) (H : gH S h) (hW : gW S) (hn : n < 14) (ha : a < 20) (ho : o9 < 20) (hxb : 1 < g_ar (gN S n 1) → xb = 8 + 3 * b ∧ b < 20) (hxc : 2 < g_ar (gN S n 1) → xc = 8 + 3 * c ∧ c < 20) (hoa : a ≠ o9) (hoc : gN S n 1 = 9 → c ≠ o9) (hq : gQ S n 1 ≤ 8) : pm_Cn l G fi fi 0 0 M_Sh_find [.ref (67 + 2 * n), .ref (8 + 3 * a), .ref xb, .ref xc, .ref (8 + 3 * o9)] h (g_PF S o9 h (g_fx S n a b c)) := by
  have bn := hW.2.2.2.2.2 n hn
  have ba := hW.2.2.2.2.1 a ha
  have hk : gN S n 1 = 0 ∨ gN S n 1 = 1 ∨ gN S n 1 = 2 ∨ gN S n 1 = 3 ∨ gN S n 1 = 4 ∨ gN S n 1 = 5 ∨ gN S n 1 = 6 ∨ gN S n 1 = 7 ∨ gN S n 1 = 8 ∨ gN S n 1 = 9 ∨ gN S n 1 = 10 ∨ gN S n 1 = 11 ∨ gN S n 1 = 12 ∨ gN S n 1 = 13 ∨ gN S n 1 = 14 ∨ gN S n 1 = 15 ∨ gN S n 1 = 16 ∨ gN S n 1 = 17 ∨ gN S n 1 = 18 := by omega
  rcases hk with hop | hop | hop | hop | hop | hop | hop | hop | hop | hop | hop | hop | hop | hop | hop | hop | hop | hop | hop
  · obtain ⟨rfl, hb⟩ := hxb (by rw [hop]; decide)
    have bb := hW.2.2.2.2.1 b hb
    exact g_PF_of (f_0 hl H hW hn ha hb ho hop) (by repeat' first | exact g_ok_none | exact g_ok_sh (by omega) | apply g_ok_if) (by simp only [g_fx, hop])
  · obtain ⟨rfl, hb⟩ := hxb (by rw [hop]; decide)
    have bb := hW.2.2.2.2.1 b hb
    exact g_PF_of (f_1 hl H hW hn ha hb ho hop) (by repeat' first | exact g_ok_none | exact g_ok_sh (by omega) | apply g_ok_if) (by simp only [g_fx, hop])
  · obtain ⟨rfl, hb⟩ := hxb (by rw [hop]; decide)
    have bb := hW.2.2.2.2.1 b hb
    exact g_PF_of (f_2 hl H hW hn ha hb ho hop) (by repeat' first | exact g_ok_none | exact g_ok_sh (by omega) | apply g_ok_if) (by simp only [g_fx, hop])
  · obtain ⟨rfl, hb⟩ := hxb (by rw [hop]; decide)
    have bb := hW.2.2.2.2.1 b hb
    exact g_PF_of (f_3 hl H hW hn ha hb ho hop) (by repeat' first | exact g_ok_none | exact g_ok_sh (by omega) | apply g_ok_if) (by simp only [g_fx, hop])
  · obtain ⟨rfl, hb⟩ := hxb (by rw [hop]; decide)
    have bb := hW.2.2.2.2.1 b hb
    exact g_PF_of (f_4 hl H hW hn ha hb ho hop) (by repeat' first | exact g_ok_none | exact g_ok_sh (by omega) | apply g_ok_if) (by simp only [g_fx, hop])
  · exact g_PF_of (f_5 hl H hW hn ha ho hop) (by repeat' first | exact g_ok_none | exact g_ok_sh (by omega) | apply g_ok_if) (by simp only [g_fx, hop])
  · exact g_PF_of (f_6 hl H hW hn ha ho hop) (by repeat' first | exact g_ok_none | exact g_ok_sh (by omega) | apply g_ok_if) (by simp only [g_fx, hop])
  · by_cases ht : gQ S n 0 = 0 ∨ gQ S n 0 = 1
    · have hp : gQ S n 0 = nI (iN (gQ S n 0)) := by rcases ht with q | q <;> rw [q] <;> rfl
      have ht2 : iN (gQ S n 0) = 0 ∨ iN (gQ S n 0) = 1 := by rcases ht with q | q <;> rw [q] <;> decide
      exact g_PF_of (f_7y hl H hW hn ha ho hop hp ht2) (g_ok_sh (by omega)) (by simp only [g_fx, hop]; rw [if_pos ht])
    · exact g_PF_of (f_7n hl H hW hn ha ho hop ht) g_ok_none (by simp only [g_fx, hop]; rw [if_neg ht])
  · obtain ⟨rfl, hb⟩ := hxb (by rw [hop]; decide)
    have bb := hW.2.2.2.2.1 b hb
    exact g_PF_of (f_8 hl H hW hn ha hb ho hop) (by repeat' first | exact g_ok_none | exact g_ok_sh (by omega) | apply g_ok_if) (by simp only [g_fx, hop])
  · obtain ⟨rfl, hb⟩ := hxb (by rw [hop]; decide)
    have bb := hW.2.2.2.2.1 b hb
    obtain ⟨rfl, hc⟩ := hxc (by rw [hop]; decide)
    have oc := hoc hop
    by_cases hb9 : gT S c 0 = 1 ∧ gT S a 0 = gT S b 0
    · have K9 := c_fit (l := l) (G := G) (fi := fi) (t := gT S a 0) hl H hW ha hb ho
      have eo : g_ok (if (gT S a 1 = gT S b 1 ∨ gT S a 1 = 1 ∨ gT S b 1 = 1) ∧ (gT S a 2 = gT S b 2 ∨ gT S a 2 = 1 ∨ gT S b 2 = 1) then g_sh (gT S a 0) (max (gT S a 1) (gT S b 1)) (max (gT S a 2) (gT S b 2)) else none) := (by repeat' first | exact g_ok_none | exact g_ok_sh (by omega) | apply g_ok_if)
      have ef : g_fx S n a b c = g_f9 S a c (if (gT S a 1 = gT S b 1 ∨ gT S a 1 = 1 ∨ gT S b 1 = 1) ∧ (gT S a 2 = gT S b 2 ∨ gT S a 2 = 1 ∨ gT S b 2 = 1) then g_sh (gT S a 0) (max (gT S a 1) (gT S b 1)) (max (gT S a 2) (gT S b 2)) else none) := by simp only [g_fx, hop]; rw [if_pos hb9]
      rw [ef]
      generalize (if (gT S a 1 = gT S b 1 ∨ gT S a 1 = 1 ∨ gT S b 1 = 1) ∧ (gT S a 2 = gT S b 2 ∨ gT S a 2 = 1 ∨ gT S b 2 = 1) then g_sh (gT S a 0) (max (gT S a 1) (gT S b 1)) (max (gT S a 2) (gT S b 2)) else none) = x1 at K9 eo
      cases x1 with
      | none => exact g_PF_of (f_9n hl H hW hn ha hb hc ho hop hb9.1 hb9.2 K9) g_ok_none rfl
      | some x9 =>
        obtain ⟨r, ⟨h1, h2, h3⟩, k⟩ := f_9y hl H hW hn ha hb hc ho hop hb9.1 hb9.2 rfl (hW.pt eo) K9
        have t1 := g_pt_T S o9 x9
        simp only [t1.1, t1.2.1, t1.2.2, g_pt_n S o9 (some x9) hoa, g_pt_n S o9 (some x9) oc] at h1 h2
        refine ⟨r, ⟨h1, ?_⟩, k⟩
        cases hz : g_f9 S a c (some x9) with
        | none =>
          simp only [g_f9] at hz
          rw [hz] at h2
          exact ⟨some x9, h2, h3, eo, fun v q => nomatch q⟩
        | some v =>
          have ov : g_ok (g_f9 S a c (some x9)) := by simp only [g_f9]; exact (by repeat' first | exact g_ok_none | exact g_ok_sh (by omega) | apply g_ok_if)
          rw [hz] at ov
          simp only [g_f9] at hz
          rw [hz, g_pt_pt] at h2
          exact ⟨some v, h2, h3, ov, fun v2 q => q⟩
    · exact g_PF_of (f_9e hl H hW hn ha hb hc ho hop hb9) g_ok_none (by simp only [g_fx, hop]; rw [if_neg hb9])
  · exact g_PF_of (f_10 hl H hW hn ha ho hop) (by repeat' first | exact g_ok_none | exact g_ok_sh (by omega) | apply g_ok_if) (by simp only [g_fx, hop])
  · exact g_PF_of (f_11 hl H hW hn ha ho hop) (by repeat' first | exact g_ok_none | exact g_ok_sh (by omega) | apply g_ok_if) (by simp only [g_fx, hop])
  · exact g_PF_of (f_12 hl H hW hn ha ho hop) (by repeat' first | exact g_ok_none | exact g_ok_sh (by omega) | apply g_ok_if) (by simp only [g_fx, hop])
  · obtain ⟨rfl, hb⟩ := hxb (by rw [hop]; decide)
    have bb := hW.2.2.2.2.1 b hb
    exact g_PF_of (f_13 hl H hW hn ha hb ho hop) (by repeat' first | exact g_ok_none | exact g_ok_sh (by omega) | apply g_ok_if) (by simp only [g_fx, hop])
  · by_cases hb9 : ¬ gQ S n 0 < 0 ∧ ¬ gQ S n 1 < gQ S n 0
    · have hp0 : ¬ gQ S n 1 < 0 := fun q => hb9.1 (by have := Int32.lt_iff_toInt_lt.mp q; have q2 : ¬ (gQ S n 1).toInt < (gQ S n 0).toInt := fun q => hb9.2 (Int32.lt_iff_toInt_lt.mpr q); apply Int32.lt_iff_toInt_lt.mpr; omega)
      have q8 := iN_le (k := 8) (by omega) hq
      exact g_PF_of (f_14y hl H hW hn ha ho hop (nI_iN hb9.1) (nI_iN hp0) (iN_mono hb9.2) (by omega)) (by repeat' first | exact g_ok_none | exact g_ok_sh (by omega) | apply g_ok_if) (by simp only [g_fx, hop]; rw [if_pos hb9])
    · exact g_PF_of (f_14n hl H hW hn ha ho hop hb9) g_ok_none (by simp only [g_fx, hop]; rw [if_neg hb9])
  · obtain ⟨rfl, hb⟩ := hxb (by rw [hop]; decide)
    have bb := hW.2.2.2.2.1 b hb
    exact g_PF_of (f_15 hl H hW hn ha hb ho hop) (by repeat' first | exact g_ok_none | exact g_ok_sh (by omega) | apply g_ok_if) (by simp only [g_fx, hop])
  · obtain ⟨rfl, hb⟩ := hxb (by rw [hop]; decide)
    have bb := hW.2.2.2.2.1 b hb
    refine g_PF_of (f_16 (x := if (¬ gQ S n 0 < 1 ∧ ¬ 2 < gQ S n 0 ∧ ¬ gQ S n 1 < 0 ∧ gQ S n 1 ≤ 2) then (if gT S b 2 ≤ gT S a 2 + 2 * iN (gQ S n 1) then g_sh 0 (gT S a 1) ((gT S a 2 + 2 * iN (gQ S n 1) - gT S b 2) / iN (gQ S n 0) + 1) else none) else none) hl H hW hn ha hb ho hop ?_) (by repeat' first | exact g_ok_none | exact g_ok_sh (by omega) | apply g_ok_if) (by simp only [g_fx, hop])
    by_cases hb9 : ¬ gQ S n 0 < 1 ∧ ¬ 2 < gQ S n 0 ∧ ¬ gQ S n 1 < 0 ∧ gQ S n 1 ≤ 2
    · rw [if_pos hb9]
      have z1 : ¬ (gQ S n 0).toInt < 1 := fun q => hb9.1 (Int32.lt_iff_toInt_lt.mpr q)
      have z2 : ¬ 2 < (gQ S n 0).toInt := fun q => hb9.2.1 (Int32.lt_iff_toInt_lt.mpr q)
      have hp0 : ¬ gQ S n 0 < 0 := fun q => by have q2 : (gQ S n 0).toInt < 0 := Int32.lt_iff_toInt_lt.mp q; omega
      have q2 := iN_le (k := 2) (by omega) hb9.2.2.2
      have p1 : 1 ≤ iN (gQ S n 0) := by simp only [iN]; omega
      have p2 : iN (gQ S n 0) ≤ 2 := by simp only [iN]; omega
      by_cases le : gT S b 2 ≤ gT S a 2 + 2 * iN (gQ S n 1)
      · rw [if_pos le]; exact c_sl1 hl H hW hn ha hb ho (nI_iN hp0) (nI_iN hb9.2.2.1) p1 p2 q2 le
      · rw [if_neg le]; exact c_sl2 hl H hW hn ha hb ho (nI_iN hp0) (nI_iN hb9.2.2.1) p1 p2 q2 le
    · rw [if_neg hb9]; exact c_sl3 hl H hW hn ha hb ho hb9
  · obtain ⟨rfl, hb⟩ := hxb (by rw [hop]; decide)
    have bb := hW.2.2.2.2.1 b hb
    obtain ⟨rfl, hc⟩ := hxc (by rw [hop]; decide)
    exact g_PF_of (f_17 hl H hW hn ha hb hc ho hop) (by repeat' first | exact g_ok_none | exact g_ok_sh (by omega) | apply g_ok_if) (by simp only [g_fx, hop])
  · exact g_PF_of (f_18 hl H hW hn ha ho hop) (by repeat' first | exact g_ok_none | exact g_ok_sh (by omega) | apply g_ok_if) (by simp only [g_fx, hop])
