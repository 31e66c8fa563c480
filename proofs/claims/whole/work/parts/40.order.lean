/-! ===== the class: putting in order ===== -/
def g_as (S : gS) (n k : Nat) : Nat := (gA S n k).toNatClampNeg
/-- the arguments are slots -/
def gV (S : gS) : Prop := ∀ n, n < gG S 0 → ∀ k, k < gN S n 0 → gA S n k = nI (g_as S n k) ∧ g_as S n k < 20
def g_allF (p : Nat → Bool) : Nat → Nat → Bool
  | _, 0 => true
  | i, d + 1 => p i && g_allF p (i + 1) d
def g_least (q : Nat → Bool) : Nat → Nat → Option Nat
  | _, 0 => none
  | i, d + 1 => if q i = true then some i else g_least q (i + 1) d
theorem g_least_lt (q : Nat → Bool) : ∀ d i n, g_least q i d = some n → i ≤ n ∧ n < i + d
  | 0, _, _, h => by cases h
  | d + 1, i, n, h => by
    simp only [g_least] at h
    split at h
    · cases h; omega
    · have := g_least_lt q d (i + 1) n h
      omega
def g_opt : Option Nat → Int32
  | none => -1
  | some n => nI n
abbrev g_isOP (S : gS) (j : Nat) : Prop := (gK S j 0 = 1 ∨ gK S j 0 = 2) ∨ gK S j 0 = 3 ∧ gN S (gK S j 1) 3 = 1
abbrev g_isCP (S : gS) (j : Nat) : Prop := gK S j 0 = 2 ∨ gK S j 0 = 3 ∧ gN S (gK S j 1) 4 = 1
def g_isO (S : gS) (n k : Nat) : Bool := decide (g_isOP S (g_as S n k))
def g_isC (S : gS) (n k : Nat) : Bool := decide (g_isCP S (g_as S n k))
def g_argO (S : gS) (n : Nat) : Bool := g_allF (g_isO S n) 0 (gN S n 0)
def g_argC (S : gS) (n : Nat) : Bool := g_allF (g_isC S n) 0 (gN S n 0)
def g_canO (S : gS) (n : Nat) : Bool := decide (gN S n 3 = 0) && g_argO S n
set_option maxHeartbeats 4000000 in
set_option maxRecDepth 20000 in
theorem lp_argsO {l : Launch} {G : pm_G} {fi : Bool} {S : gS} {h : pm_H} {n : Nat} (hl : l.stackTraces = false) (H : gH S h) (hW : gW S) (hV : gV S) (hn : n < 14) (hm : n < gG S 0) : ∀ (d i : Nat), i + d = gN S n 0 → pm_Px l G fi fi 0 0 M_Gr_argumentsAreOrdered 2 [(2, .int (nI i)), (0, .ref (0)), (1, .ref (67 + 2 * n))] [] h (fun r => r = (.inl (some (.int (if g_allF (g_isO S n) i d = true then 1 else 0))), h)) := by
  obtain ⟨b1, b2, b3, b4, b5, b6⟩ := id hW
  have bn := b6 n hn
  intro d
  induction d with
  | zero =>
    intro i hb
    refine px (fun _ => pm_iload_n (pc := 2) d_Gr_argumentsAreOrdered_2 rfl) ?_
    refine px (fun _ => pm_aload_n (pc := 3) d_Gr_argumentsAreOrdered_3 rfl) ?_
    refine px (fun _ => pm_getf fl_Gr_203 (pc := 4) d_Gr_argumentsAreOrdered_4 (H.2.2.2.2.2.2.2 n hn).1 rfl) ?_
    refine pxb (fun _ => pm_icmp_ge (pc := 7) (tgt := 31) d_Gr_argumentsAreOrdered_7 (by decide)) (fun c_1 => ?_) (fun c_1 => absurd (by rw [show i = gN S n 0 by omega]; exact (nI_leI (a := gN S n 0) (b := gN S n 0) (by omega) (by omega)).mpr (Nat.le_refl _)) c_1)
    refine px (fun _ => pm_iconst (v := 1) (pc := 31) d_Gr_argumentsAreOrdered_31 rfl) ?_
    exact pxr (pm_iret (pc := 32) d_Gr_argumentsAreOrdered_32 rfl rfl) rfl
  | succ d ih =>
    intro i hb
    have hi3 : i < 3 := by omega
    have va := hV n hm i (by omega)
    refine px (fun _ => pm_iload_n (pc := 2) d_Gr_argumentsAreOrdered_2 rfl) ?_
    refine px (fun _ => pm_aload_n (pc := 3) d_Gr_argumentsAreOrdered_3 rfl) ?_
    refine px (fun _ => pm_getf fl_Gr_203 (pc := 4) d_Gr_argumentsAreOrdered_4 (H.2.2.2.2.2.2.2 n hn).1 rfl) ?_
    refine pxb (fun _ => pm_icmp_ge (pc := 7) (tgt := 31) d_Gr_argumentsAreOrdered_7 (by decide)) (fun c_1 => absurd c_1 (fun q => absurd ((nI_leI (a := gN S n 0) (b := i) (by omega) (by omega)).mp q) (by omega))) (fun c_1 => ?_)
    refine px (fun _ => pm_aload_n (pc := 10) d_Gr_argumentsAreOrdered_10 rfl) ?_
    refine px (fun _ => pm_aload_n (pc := 11) d_Gr_argumentsAreOrdered_11 rfl) ?_
    refine px (fun _ => pm_getf fl_Gr_206 (pc := 12) d_Gr_argumentsAreOrdered_12 (H.2.2.2.2.2.2.2 n hn).1 rfl) ?_
    refine px (fun _ => pm_iload_n (pc := 15) d_Gr_argumentsAreOrdered_15 rfl) ?_
    refine px (fun _ => pm_iald (j := i) (pc := 16) d_Gr_argumentsAreOrdered_16 (H.2.2.2.2.2.2.2 n hn).2 (rfl) (hi3) (by decide)) ?_
    refine px (fun _ => k_Gr_argumentsAreOrdered_17 (kc1 := 0) (ks1 := 0) (kc := 0) (ks := 0) (av := [.int ((gA S n) (i))]) (st := []) H.1 ((by show pm_En l G fi fi 0 0 _ [.ref 0, .int (gA S n i)] h _; rw [va.1]; exact c_isOrdered hl H hW va.2)) rfl rfl (Nat.le_of_ble_eq_true rfl)) ?_
    refine pxn (fun _ => pm_if_ne (pc := 20) (tgt := 25) d_Gr_argumentsAreOrdered_20 (by decide)) (fun c_2 => ?_) (fun c_2 => ?_)
    · have n_c_2 : g_isOP S (g_as S n i) := Decidable.byContradiction fun q => c_2 (g_if0.mpr q)
      refine px (fun _ => pm_iinc (x := nI i) (v := nI (i + 1)) (lv' := [(2, .int (nI (i + 1))), (0, .ref (0)), (1, .ref (67 + 2 * n))]) (pc := 25) d_Gr_argumentsAreOrdered_25 rfl (nI_1 _) (by decide) rfl) ?_
      refine px (fun _ => pm_goto (tgt := 2) (pc := 28) d_Gr_argumentsAreOrdered_28 (by decide)) ?_
      refine pxm (ih (i + 1) (by omega)) (fun r q => ?_)
      rw [q, show g_allF (g_isO S n) i (d + 1) = g_allF (g_isO S n) (i + 1) d by simp [g_allF, g_isO, n_c_2]]
    · have n_c_2 : ¬ (g_isOP S (g_as S n i)) := g_if0.mp c_2
      refine px (fun _ => pm_iconst (v := 0) (pc := 23) d_Gr_argumentsAreOrdered_23 rfl) ?_
      exact pxr (pm_iret (pc := 24) d_Gr_argumentsAreOrdered_24 rfl rfl) (by simp [g_allF, g_isO, n_c_2])
set_option maxHeartbeats 4000000 in
set_option maxRecDepth 20000 in
theorem c_argsO {l : Launch} {G : pm_G} {fi : Bool} {h : pm_H} {S : gS} {n : Nat} (hl : l.stackTraces = false) (H : gH S h) (hW : gW S) (hV : gV S) (hn : n < 14) (hm : n < gG S 0) : pm_En l G fi fi 0 0 M_Gr_argumentsAreOrdered [.ref 0, .ref (67 + 2 * n)] h (.inl (some (.int (if g_allF (g_isO S n) 0 (gN S n 0) = true then 1 else 0))), h) := by
  refine pm_Cn.eq (pm_Cn.of hl (by decide) (Nat.le_of_ble_eq_true rfl) ?_)
  refine px (fun _ => pm_iconst (v := 0) (pc := 0) d_Gr_argumentsAreOrdered_0 rfl) ?_
  refine px (fun _ => pm_istore_n (lv' := [(2, .int (0)), (0, .ref (0)), (1, .ref (67 + 2 * n))]) (pc := 1) d_Gr_argumentsAreOrdered_1 (by decide) rfl) ?_
  exact lp_argsO hl H hW hV hn hm (gN S n 0) 0 (by omega)
set_option maxHeartbeats 4000000 in
set_option maxRecDepth 20000 in
theorem lp_argsC {l : Launch} {G : pm_G} {fi : Bool} {S : gS} {h : pm_H} {n : Nat} (hl : l.stackTraces = false) (H : gH S h) (hW : gW S) (hV : gV S) (hn : n < 14) (hm : n < gG S 0) : ∀ (d i : Nat), i + d = gN S n 0 → pm_Px l G fi fi 0 0 M_Gr_argumentsAreFolded 2 [(2, .int (nI i)), (0, .ref (0)), (1, .ref (67 + 2 * n))] [] h (fun r => r = (.inl (some (.int (if g_allF (g_isC S n) i d = true then 1 else 0))), h)) := by
  obtain ⟨b1, b2, b3, b4, b5, b6⟩ := id hW
  have bn := b6 n hn
  intro d
  induction d with
  | zero =>
    intro i hb
    refine px (fun _ => pm_iload_n (pc := 2) d_Gr_argumentsAreFolded_2 rfl) ?_
    refine px (fun _ => pm_aload_n (pc := 3) d_Gr_argumentsAreFolded_3 rfl) ?_
    refine px (fun _ => pm_getf fl_Gr_203 (pc := 4) d_Gr_argumentsAreFolded_4 (H.2.2.2.2.2.2.2 n hn).1 rfl) ?_
    refine pxb (fun _ => pm_icmp_ge (pc := 7) (tgt := 31) d_Gr_argumentsAreFolded_7 (by decide)) (fun c_1 => ?_) (fun c_1 => absurd (by rw [show i = gN S n 0 by omega]; exact (nI_leI (a := gN S n 0) (b := gN S n 0) (by omega) (by omega)).mpr (Nat.le_refl _)) c_1)
    refine px (fun _ => pm_iconst (v := 1) (pc := 31) d_Gr_argumentsAreFolded_31 rfl) ?_
    exact pxr (pm_iret (pc := 32) d_Gr_argumentsAreFolded_32 rfl rfl) rfl
  | succ d ih =>
    intro i hb
    have hi3 : i < 3 := by omega
    have va := hV n hm i (by omega)
    refine px (fun _ => pm_iload_n (pc := 2) d_Gr_argumentsAreFolded_2 rfl) ?_
    refine px (fun _ => pm_aload_n (pc := 3) d_Gr_argumentsAreFolded_3 rfl) ?_
    refine px (fun _ => pm_getf fl_Gr_203 (pc := 4) d_Gr_argumentsAreFolded_4 (H.2.2.2.2.2.2.2 n hn).1 rfl) ?_
    refine pxb (fun _ => pm_icmp_ge (pc := 7) (tgt := 31) d_Gr_argumentsAreFolded_7 (by decide)) (fun c_1 => absurd c_1 (fun q => absurd ((nI_leI (a := gN S n 0) (b := i) (by omega) (by omega)).mp q) (by omega))) (fun c_1 => ?_)
    refine px (fun _ => pm_aload_n (pc := 10) d_Gr_argumentsAreFolded_10 rfl) ?_
    refine px (fun _ => pm_aload_n (pc := 11) d_Gr_argumentsAreFolded_11 rfl) ?_
    refine px (fun _ => pm_getf fl_Gr_206 (pc := 12) d_Gr_argumentsAreFolded_12 (H.2.2.2.2.2.2.2 n hn).1 rfl) ?_
    refine px (fun _ => pm_iload_n (pc := 15) d_Gr_argumentsAreFolded_15 rfl) ?_
    refine px (fun _ => pm_iald (j := i) (pc := 16) d_Gr_argumentsAreFolded_16 (H.2.2.2.2.2.2.2 n hn).2 (rfl) (hi3) (by decide)) ?_
    refine px (fun _ => k_Gr_argumentsAreFolded_17 (kc1 := 0) (ks1 := 0) (kc := 0) (ks := 0) (av := [.int ((gA S n) (i))]) (st := []) H.1 ((by show pm_En l G fi fi 0 0 _ [.ref 0, .int (gA S n i)] h _; rw [va.1]; exact c_isCoF hl H hW va.2)) rfl rfl (Nat.le_of_ble_eq_true rfl)) ?_
    refine pxn (fun _ => pm_if_ne (pc := 20) (tgt := 25) d_Gr_argumentsAreFolded_20 (by decide)) (fun c_2 => ?_) (fun c_2 => ?_)
    · have n_c_2 : g_isCP S (g_as S n i) := Decidable.byContradiction fun q => c_2 (g_if0.mpr q)
      refine px (fun _ => pm_iinc (x := nI i) (v := nI (i + 1)) (lv' := [(2, .int (nI (i + 1))), (0, .ref (0)), (1, .ref (67 + 2 * n))]) (pc := 25) d_Gr_argumentsAreFolded_25 rfl (nI_1 _) (by decide) rfl) ?_
      refine px (fun _ => pm_goto (tgt := 2) (pc := 28) d_Gr_argumentsAreFolded_28 (by decide)) ?_
      refine pxm (ih (i + 1) (by omega)) (fun r q => ?_)
      rw [q, show g_allF (g_isC S n) i (d + 1) = g_allF (g_isC S n) (i + 1) d by simp [g_allF, g_isC, n_c_2]]
    · have n_c_2 : ¬ (g_isCP S (g_as S n i)) := g_if0.mp c_2
      refine px (fun _ => pm_iconst (v := 0) (pc := 23) d_Gr_argumentsAreFolded_23 rfl) ?_
      exact pxr (pm_iret (pc := 24) d_Gr_argumentsAreFolded_24 rfl rfl) (by simp [g_allF, g_isC, n_c_2])
set_option maxHeartbeats 4000000 in
set_option maxRecDepth 20000 in
theorem c_argsC {l : Launch} {G : pm_G} {fi : Bool} {h : pm_H} {S : gS} {n : Nat} (hl : l.stackTraces = false) (H : gH S h) (hW : gW S) (hV : gV S) (hn : n < 14) (hm : n < gG S 0) : pm_En l G fi fi 0 0 M_Gr_argumentsAreFolded [.ref 0, .ref (67 + 2 * n)] h (.inl (some (.int (if g_allF (g_isC S n) 0 (gN S n 0) = true then 1 else 0))), h) := by
  refine pm_Cn.eq (pm_Cn.of hl (by decide) (Nat.le_of_ble_eq_true rfl) ?_)
  refine px (fun _ => pm_iconst (v := 0) (pc := 0) d_Gr_argumentsAreFolded_0 rfl) ?_
  refine px (fun _ => pm_istore_n (lv' := [(2, .int (0)), (0, .ref (0)), (1, .ref (67 + 2 * n))]) (pc := 1) d_Gr_argumentsAreFolded_1 (by decide) rfl) ?_
  exact lp_argsC hl H hW hV hn hm (gN S n 0) 0 (by omega)
set_option maxHeartbeats 4000000 in
set_option maxRecDepth 20000 in
theorem lp_least {l : Launch} {G : pm_G} {fi : Bool} {S : gS} {h : pm_H} (hl : l.stackTraces = false) (H : gH S h) (hW : gW S) (hV : gV S) : ∀ (d i : Nat), i + d = gG S 0 → pm_Px l G fi fi 0 0 M_Gr_leastToOrder 2 [(1, .int (nI i)), (0, .ref (0))] [] h (fun r => r = (.inl (some (.int (g_opt (g_least (g_canO S) i d)))), h)) := by
  obtain ⟨b1, b2, b3, b4, b5, b6⟩ := id hW
  intro d
  induction d with
  | zero =>
    intro i hb
    refine px (fun _ => pm_iload_n (pc := 2) d_Gr_leastToOrder_2 rfl) ?_
    refine px (fun _ => pm_aload_n (pc := 3) d_Gr_leastToOrder_3 rfl) ?_
    refine px (fun _ => pm_getf fl_Gr_35 (pc := 4) d_Gr_leastToOrder_4 H.1 rfl) ?_
    refine pxb (fun _ => pm_icmp_ge (pc := 7) (tgt := 43) d_Gr_leastToOrder_7 (by decide)) (fun c_1 => ?_) (fun c_1 => absurd (by rw [show i = gG S 0 by omega]; exact (nI_leI (a := gG S 0) (b := gG S 0) (by omega) (by omega)).mpr (Nat.le_refl _)) c_1)
    refine px (fun _ => pm_iconst (v := -1) (pc := 43) d_Gr_leastToOrder_43 rfl) ?_
    exact pxr (pm_iret (pc := 44) d_Gr_leastToOrder_44 rfl rfl) rfl
  | succ d ih =>
    intro i hb
    have hi : i < 14 := by omega
    have bn := b6 i hi
    refine px (fun _ => pm_iload_n (pc := 2) d_Gr_leastToOrder_2 rfl) ?_
    refine px (fun _ => pm_aload_n (pc := 3) d_Gr_leastToOrder_3 rfl) ?_
    refine px (fun _ => pm_getf fl_Gr_35 (pc := 4) d_Gr_leastToOrder_4 H.1 rfl) ?_
    refine pxb (fun _ => pm_icmp_ge (pc := 7) (tgt := 43) d_Gr_leastToOrder_7 (by decide)) (fun c_1 => absurd c_1 (fun q => absurd ((nI_leI (a := gG S 0) (b := i) (by omega) (by omega)).mp q) (by omega))) (fun c_1 => ?_)
    refine px (fun _ => pm_aload_n (pc := 10) d_Gr_leastToOrder_10 rfl) ?_
    refine px (fun _ => pm_getf fl_Gr_17 (pc := 11) d_Gr_leastToOrder_11 H.1 rfl) ?_
    refine px (fun _ => pm_iload_n (pc := 14) d_Gr_leastToOrder_14 rfl) ?_
    obtain ⟨f_2, hf_3, gf_4⟩ := id H.2.2.1
    refine px (fun _ => pm_aald (kd := 4) (Cn := "GraphRunner$Node") (j := i) (pc := 15) d_Gr_leastToOrder_15 (fun _ => rfl) hf_3 (rfl) (hi) (by decide) (gf_4 i hi)) ?_
    refine px (fun _ => pm_getf fl_Gr_184 (pc := 16) d_Gr_leastToOrder_16 (H.2.2.2.2.2.2.2 i hi).1 rfl) ?_
    refine pxn (fun _ => pm_if_ne (pc := 19) (tgt := 37) d_Gr_leastToOrder_19 (by decide)) (fun c_5 => ?_) (fun c_5 => ?_)
    · have n_c_5 : ¬ ((gN S i 3) = 0) := fun zq => c_5 ((nI_eq (a := (gN S i 3)) (b := 0) (by omega) (by omega)).mpr zq)
      refine px (fun _ => pm_iinc (x := nI i) (v := nI (i + 1)) (lv' := [(1, .int (nI (i + 1))), (0, .ref (0))]) (pc := 37) d_Gr_leastToOrder_37 rfl (nI_1 _) (by decide) rfl) ?_
      refine px (fun _ => pm_goto (tgt := 2) (pc := 40) d_Gr_leastToOrder_40 (by decide)) ?_
      refine pxm (ih (i + 1) (by omega)) (fun r q => ?_)
      rw [q, show g_least (g_canO S) i (d + 1) = g_least (g_canO S) (i + 1) d by simp only [g_least]; rw [if_neg (by simp_all [g_canO, g_argO])]]
    · have n_c_5 : (gN S i 3) = 0 := (nI_eq (a := (gN S i 3)) (b := 0) (by omega) (by omega)).mp c_5
      refine px (fun _ => pm_aload_n (pc := 22) d_Gr_leastToOrder_22 rfl) ?_
      refine px (fun _ => pm_aload_n (pc := 23) d_Gr_leastToOrder_23 rfl) ?_
      refine px (fun _ => pm_getf fl_Gr_17 (pc := 24) d_Gr_leastToOrder_24 H.1 rfl) ?_
      refine px (fun _ => pm_iload_n (pc := 27) d_Gr_leastToOrder_27 rfl) ?_
      obtain ⟨f_6, hf_7, gf_8⟩ := id H.2.2.1
      refine px (fun _ => pm_aald (kd := 4) (Cn := "GraphRunner$Node") (j := i) (pc := 28) d_Gr_leastToOrder_28 (fun _ => rfl) hf_7 (rfl) (hi) (by decide) (gf_8 i hi)) ?_
      refine px (fun _ => k_Gr_leastToOrder_29 (kc1 := 0) (ks1 := 0) (kc := 0) (ks := 0) (av := [.ref (67 + 2 * i)]) (st := []) H.1 (c_argsO hl H hW hV hi (by omega)) rfl rfl (Nat.le_of_ble_eq_true rfl)) ?_
      refine pxb (fun _ => pm_if_eq (pc := 32) (tgt := 37) d_Gr_leastToOrder_32 (by decide)) (fun c_9 => ?_) (fun c_9 => ?_)
      · have n_c_9 : ¬ (g_allF (g_isO S i) 0 (gN S i 0) = true) := g_if0.mp c_9
        refine px (fun _ => pm_iinc (x := nI i) (v := nI (i + 1)) (lv' := [(1, .int (nI (i + 1))), (0, .ref (0))]) (pc := 37) d_Gr_leastToOrder_37 rfl (nI_1 _) (by decide) rfl) ?_
        refine px (fun _ => pm_goto (tgt := 2) (pc := 40) d_Gr_leastToOrder_40 (by decide)) ?_
        refine pxm (ih (i + 1) (by omega)) (fun r q => ?_)
        rw [q, show g_least (g_canO S) i (d + 1) = g_least (g_canO S) (i + 1) d by simp only [g_least]; rw [if_neg (by simp_all [g_canO, g_argO])]]
      · have n_c_9 : g_allF (g_isO S i) 0 (gN S i 0) = true := Decidable.byContradiction fun q => c_9 (g_if0.mpr q)
        refine px (fun _ => pm_iload_n (pc := 35) d_Gr_leastToOrder_35 rfl) ?_
        exact pxr (pm_iret (pc := 36) d_Gr_leastToOrder_36 rfl rfl) (by rw [show g_least (g_canO S) i (d + 1) = some i by simp only [g_least]; rw [if_pos (by simp_all [g_canO, g_argO])]]; rfl)
set_option maxHeartbeats 4000000 in
set_option maxRecDepth 20000 in
theorem c_least {l : Launch} {G : pm_G} {fi : Bool} {h : pm_H} {S : gS} (hl : l.stackTraces = false) (H : gH S h) (hW : gW S) (hV : gV S) : pm_En l G fi fi 0 0 M_Gr_leastToOrder [.ref 0] h (.inl (some (.int (g_opt (g_least (g_canO S) 0 (gG S 0))))), h) := by
  refine pm_Cn.eq (pm_Cn.of hl (by decide) (Nat.le_of_ble_eq_true rfl) ?_)
  refine px (fun _ => pm_iconst (v := 0) (pc := 0) d_Gr_leastToOrder_0 rfl) ?_
  refine px (fun _ => pm_istore_n (lv' := [(1, .int (0)), (0, .ref (0))]) (pc := 1) d_Gr_leastToOrder_1 (by decide) rfl) ?_
  exact lp_least hl H hW hV (gG S 0) 0 (by omega)
