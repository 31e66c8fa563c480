/-! ===== the class: sum, greatest ===== -/
def g_ad (ty : Nat) (t x : UInt64) : UInt64 := if ty = 1 then FP.i2d (g_pi 0 (FP.d2i t) (FP.d2i x)) else FP.dadd t x
def g_acc (ty : Nat) (X : Nat → UInt64) : Nat → UInt64
  | 0 => FP.dconst0
  | m + 1 => g_ad ty (g_acc ty X m) (X m)
theorem g_acc_B {ty : Nat} {X : Nat → UInt64} (hty : ¬ ty = 1) : ∀ m, m ≤ 4 → (∀ k, k < m → gB (X k)) → (g_acc ty X m).toNat % 2 ^ 63 < (1056 + 2 * m) * 2 ^ 52
  | 0, _, _ => (by decide : FP.dconst0.toNat % 2 ^ 63 < (1056 + 2 * 0) * 2 ^ 52)
  | m + 1, hm, hX => by
    have ih := g_acc_B hty m (by omega) (fun k hk => hX k (by omega))
    have hx := hX m (by omega)
    show (g_ad ty (g_acc ty X m) (X m)).toNat % 2 ^ 63 < _
    simp only [g_ad]
    rw [if_neg hty]
    exact Nat.lt_of_lt_of_le (FP.Core.dadd_mag ih (Nat.lt_of_lt_of_le hx (Nat.mul_le_mul_right _ (by omega))) (by omega)) (Nat.mul_le_mul_right _ (by omega))
theorem g_ad_n {t x : UInt64} {m : Nat} (hm : m < 4) (ht : t.toNat % 2 ^ 63 < (1056 + 2 * m) * 2 ^ 52) (hx : gB x) : vf_n64 (FP.dadd t x) :=
  g_n64 (Nat.lt_of_lt_of_le (FP.Core.dadd_mag ht (Nat.lt_of_lt_of_le hx (Nat.mul_le_mul_right _ (by omega))) (by omega)) (Nat.mul_le_mul_right _ (by omega)))
abbrev g_c0 (S : gS) (a y : Nat) : Nat → UInt64 := fun k => gC S a (k * 4 + y)
abbrev g_c1 (S : gS) (a x : Nat) : Nat → UInt64 := fun k => gC S a (x * 4 + k)
def g_s0 (S : gS) (a : Nat) (f : Nat → UInt64) (i j : Nat) : Prop := ∀ y, y < gT S a 2 → f (0 * 4 + y) = g_acc (gT S a 0) (g_c0 S a y) (if y < j then i + 1 else i)
def g_s1 (S : gS) (a : Nat) (f : Nat → UInt64) (i j : Nat) : Prop := ∀ x, x < gT S a 1 → f (x * 4 + 0) = g_acc (gT S a 0) (g_c1 S a x) (if x < i then gT S a 2 else if x = i then j else 0)
theorem g_s0.row {S : gS} {a i : Nat} {f : Nat → UInt64} (h : g_s0 S a f i (gT S a 2)) : g_s0 S a f (i + 1) 0 := by
  intro y hy; rw [h y hy, if_pos hy, if_neg (by omega)]
theorem g_s0.step {S : gS} {a i j : Nat} {f : Nat → UInt64} {v : UInt64} (h : g_s0 S a f i j) (hj : j < gT S a 2) (hv : v = g_ad (gT S a 0) (f (0 * 4 + j)) (gC S a (i * 4 + j))) : g_s0 S a (va_up f (0 * 4 + j) v) i (j + 1) := by
  intro y hy
  simp only [va_up]
  by_cases e : y = j
  · subst e
    rw [if_pos rfl, if_pos (by omega), hv, h y hy, if_neg (by omega)]
    rfl
  · rw [if_neg (by omega), h y hy]
    by_cases q : y < j
    · rw [if_pos q, if_pos (by omega)]
    · rw [if_neg q, if_neg (by omega)]
theorem g_s1.row {S : gS} {a i : Nat} {f : Nat → UInt64} (h : g_s1 S a f i (gT S a 2)) : g_s1 S a f (i + 1) 0 := by
  intro x hx
  rw [h x hx]
  by_cases q : x < i
  · rw [if_pos q, if_pos (by omega)]
  · rw [if_neg q]
    by_cases q2 : x = i
    · rw [if_pos q2, if_pos (by omega)]
    · rw [if_neg q2, if_neg (by omega)]
      by_cases q3 : x = i + 1
      · rw [if_pos q3]
      · rw [if_neg q3]
theorem g_s1.step {S : gS} {a i j : Nat} {f : Nat → UInt64} {v : UInt64} (h : g_s1 S a f i j) (hi : i < gT S a 1) (hv : v = g_ad (gT S a 0) (f (i * 4 + 0)) (gC S a (i * 4 + j))) : g_s1 S a (va_up f (i * 4 + 0) v) i (j + 1) := by
  intro x hx
  simp only [va_up]
  by_cases e : x = i
  · subst e
    rw [if_pos rfl, if_neg (by omega), if_pos rfl, hv, h x hx, if_neg (by omega), if_pos rfl]
    rfl
  · rw [if_neg (by omega), h x hx]
    by_cases q : x < i
    · rw [if_pos q, if_pos q]
    · rw [if_neg q, if_neg q, if_neg e, if_neg e]
def g_mx (X : Nat → UInt64) : Nat → UInt64
  | 0 => X 0
  | m + 1 => if fGt (X (m + 1)) (g_mx X m) then X (m + 1) else g_mx X m
def g_m0 (S : gS) (a : Nat) (f : Nat → UInt64) (i j : Nat) : Prop := ∀ y, y < gT S a 2 → ∀ m, (if y < j then i + 1 else i) = m + 1 → f (0 * 4 + y) = g_mx (g_c0 S a y) m
def g_m1 (S : gS) (a : Nat) (f : Nat → UInt64) (i j : Nat) : Prop := ∀ x, x < gT S a 1 → ∀ m, (if x < i then gT S a 2 else if x = i then j else 0) = m + 1 → f (x * 4 + 0) = g_mx (g_c1 S a x) m
theorem g_m0.z {S : gS} {a : Nat} {f : Nat → UInt64} : g_m0 S a f 0 0 := fun y _ m q => by rw [if_neg (by omega)] at q; omega
theorem g_m1.z {S : gS} {a : Nat} {f : Nat → UInt64} : g_m1 S a f 0 0 := fun x _ m q => by rw [if_neg (by omega)] at q; split at q <;> omega
theorem g_m0.row {S : gS} {a i : Nat} {f : Nat → UInt64} (h : g_m0 S a f i (gT S a 2)) : g_m0 S a f (i + 1) 0 := by
  intro y hy m q; rw [if_neg (by omega)] at q; exact h y hy m (by rw [if_pos hy]; exact q)
theorem g_m1.row {S : gS} {a i : Nat} {f : Nat → UInt64} (h : g_m1 S a f i (gT S a 2)) : g_m1 S a f (i + 1) 0 := by
  intro x hx m q
  refine h x hx m ?_
  by_cases q1 : x < i
  · rw [if_pos q1]; rw [if_pos (by omega)] at q; exact q
  · rw [if_neg q1]
    by_cases q2 : x = i
    · rw [if_pos q2]; rw [if_pos (by omega)] at q; exact q
    · rw [if_neg (by omega)] at q; split at q <;> omega
theorem g_m0.put {S : gS} {a i j : Nat} {f : Nat → UInt64} {v : UInt64} (h : g_m0 S a f i j) (hj : j < gT S a 2) (hv : v = g_mx (g_c0 S a j) i) : g_m0 S a (va_up f (0 * 4 + j) v) i (j + 1) := by
  intro y hy m q
  simp only [va_up]
  by_cases e : y = j
  · subst e
    rw [if_pos rfl, hv]
    rw [if_pos (by omega)] at q
    rw [show i = m by omega]
  · rw [if_neg (by omega)]
    refine h y hy m ?_
    by_cases q1 : y < j
    · rw [if_pos q1]; rw [if_pos (by omega)] at q; exact q
    · rw [if_neg q1]; rw [if_neg (by omega)] at q; exact q
theorem g_m0.keep {S : gS} {a i j : Nat} {f : Nat → UInt64} (h : g_m0 S a f i j) (hv : f (0 * 4 + j) = g_mx (g_c0 S a j) i) : g_m0 S a f i (j + 1) := by
  intro y hy m q
  by_cases e : y = j
  · subst e
    rw [if_pos (by omega)] at q
    rw [hv, show i = m by omega]
  · refine h y hy m ?_
    by_cases q1 : y < j
    · rw [if_pos q1]; rw [if_pos (by omega)] at q; exact q
    · rw [if_neg q1]; rw [if_neg (by omega)] at q; exact q
theorem g_m1.put {S : gS} {a i j : Nat} {f : Nat → UInt64} {v : UInt64} (h : g_m1 S a f i j) (hv : v = g_mx (g_c1 S a i) j) : g_m1 S a (va_up f (i * 4 + 0) v) i (j + 1) := by
  intro x hx m q
  simp only [va_up]
  by_cases e : x = i
  · subst e
    rw [if_pos rfl, hv]
    rw [if_neg (by omega), if_pos rfl] at q
    rw [show j = m by omega]
  · rw [if_neg (by omega)]
    refine h x hx m ?_
    by_cases q1 : x < i
    · rw [if_pos q1]; rw [if_pos q1] at q; exact q
    · rw [if_neg q1, if_neg e] at q; omega
theorem g_m1.keep {S : gS} {a i j : Nat} {f : Nat → UInt64} (h : g_m1 S a f i j) (hv : f (i * 4 + 0) = g_mx (g_c1 S a i) j) : g_m1 S a f i (j + 1) := by
  intro x hx m q
  by_cases e : x = i
  · subst e
    rw [if_neg (by omega), if_pos rfl] at q
    rw [hv, show j = m by omega]
  · refine h x hx m ?_
    by_cases q1 : x < i
    · rw [if_pos q1]; rw [if_pos q1] at q; exact q
    · rw [if_neg q1, if_neg e] at q; omega
theorem g_mx_s {X : Nat → UInt64} {k : Nat} (hk : ¬ k = 0) : g_mx X k = if fGt (X k) (g_mx X (k - 1)) then X k else g_mx X (k - 1) := by
  obtain ⟨m, rfl⟩ : ∃ m, k = m + 1 := ⟨k - 1, by omega⟩
  rfl
theorem g_mx_0 {X : Nat → UInt64} {k : Nat} (hk : k = 0) : X k = g_mx X k := by subst hk; rfl
set_option maxHeartbeats 4000000 in
set_option maxRecDepth 20000 in
theorem li_zf0 {l : Launch} {G : pm_G} {fi : Bool} {S : gS} {h0 : pm_H} {Post : pm_O × pm_H → Prop} {a o9 : Nat} (hl : l.stackTraces = false) (hW : gW S) (ho : o9 < 20) (ha : a < 20) (na : a ≠ o9) : ∀ (d i j : Nat) (f : Nat → UInt64) (h : pm_H), gH (gsC S o9 f) h → gFr h0 h → g_inv (fun _ _ => FP.dconst0) (gT S o9 2) f (i) (j) → i < gT S o9 1 → j + d = gT S o9 2 → (∀ f1 h1, gH (gsC S o9 f1) h1 → gFr h0 h1 → g_inv (fun _ _ => FP.dconst0) (gT S o9 2) f1 ((i + 1)) (0) → pm_Px l G fi fi 0 0 M_Wk_sum 2 [(3, .int (nI (i + 1))), (0, .int (0)), (1, .ref (8 + 3 * a)), (2, .ref (8 + 3 * o9))] [] h1 Post) → pm_Px l G fi fi 0 0 M_Wk_sum 13 [(4, .int (nI j)), (3, .int (nI i)), (0, .int (0)), (1, .ref (8 + 3 * a)), (2, .ref (8 + 3 * o9))] [] h Post := by
  intro d
  induction d with
  | zero =>
    intro i j f h H F iv hi hd9 K
    have bo := hW.2.2.2.2.1 o9 ho
    have t_a : h[8 + 3 * a]? = some (pm_Ob 2 [.ref (9 + 3 * a), .int (nI (gT S a 0)), .int (nI (gT S a 1)), .int (nI (gT S a 2))]) := (H.2.2.2.2.2.2.1 a ha).2.1
    have t_o9 : h[8 + 3 * o9]? = some (pm_Ob 2 [.ref (9 + 3 * o9), .int (nI (gT S o9 0)), .int (nI (gT S o9 1)), .int (nI (gT S o9 2))]) := (H.2.2.2.2.2.2.1 o9 ho).2.1
    have ej : j = gT S o9 2 := by omega
    refine px (fun _ => pm_iload (pc := 13) d_Wk_sum_13 rfl) ?_
    refine px (fun _ => pm_aload_n (pc := 15) d_Wk_sum_15 rfl) ?_
    refine px (fun _ => pm_getf fl_Wk_58 (pc := 16) d_Wk_sum_16 t_o9 rfl) ?_
    refine pxb (fun _ => pm_icmp_ge (pc := 19) (tgt := 36) d_Wk_sum_19 (by decide)) (fun c_1 => ?_) (fun c_1 => absurd (by rw [ej]; exact (nI_leI (a := gT S o9 2) (b := gT S o9 2) (by omega) (by omega)).mpr (Nat.le_refl _)) c_1)
    refine px (fun _ => pm_iinc (x := nI i) (v := nI (i + 1)) (lv' := [(3, .int (nI (i + 1))), (4, .int (nI j)), (0, .int (0)), (1, .ref (8 + 3 * a)), (2, .ref (8 + 3 * o9))]) (pc := 36) d_Wk_sum_36 rfl (nI_1 _) (by decide) rfl) ?_
    refine px (fun _ => pm_goto (tgt := 2) (pc := 39) d_Wk_sum_39 (by decide)) ?_
    refine pxd [0, 2, 3, 4] rfl ?_
    exact K f h H F (by rw [ej] at iv; exact iv.row)
  | succ d ih =>
    intro i j f h H F iv hi hd9 K
    have bo := hW.2.2.2.2.1 o9 ho
    have t_a : h[8 + 3 * a]? = some (pm_Ob 2 [.ref (9 + 3 * a), .int (nI (gT S a 0)), .int (nI (gT S a 1)), .int (nI (gT S a 2))]) := (H.2.2.2.2.2.2.1 a ha).2.1
    have t_o9 : h[8 + 3 * o9]? = some (pm_Ob 2 [.ref (9 + 3 * o9), .int (nI (gT S o9 0)), .int (nI (gT S o9 1)), .int (nI (gT S o9 2))]) := (H.2.2.2.2.2.2.1 o9 ho).2.1
    have hj : j < gT S o9 2 := by omega
    refine px (fun _ => pm_iload (pc := 13) d_Wk_sum_13 rfl) ?_
    refine px (fun _ => pm_aload_n (pc := 15) d_Wk_sum_15 rfl) ?_
    refine px (fun _ => pm_getf fl_Wk_58 (pc := 16) d_Wk_sum_16 t_o9 rfl) ?_
    refine pxb (fun _ => pm_icmp_ge (pc := 19) (tgt := 36) d_Wk_sum_19 (by decide)) (fun c_1 => absurd c_1 (fun q => absurd ((nI_leI (a := gT S o9 2) (b := j) (by omega) (by omega)).mp q) (by omega))) (fun c_1 => ?_)
    refine px (fun _ => pm_aload_n (pc := 22) d_Wk_sum_22 rfl) ?_
    refine px (fun _ => pm_iload_n (pc := 23) d_Wk_sum_23 rfl) ?_
    refine px (fun _ => pm_iload (pc := 24) d_Wk_sum_24 rfl) ?_
    refine px (fun _ => pm_dconst0 (pc := 26) d_Wk_sum_26) ?_
    obtain ⟨⟨o2, h2⟩, ⟨e2, H2, F2⟩, en2⟩ := c_putf (l := l) (G := G) (fi := fi) (v := FP.dconst0) hl H hW ho (i := i) (j := j) (by omega) (by omega)
    dsimp only at e2 H2 F2
    subst e2
    refine px (fun _ => k_Wk_sum_27 (kc1 := 0) (ks1 := 0) (kc := 0) (ks := 0) (av := [.int (nI i), .int (nI j), .double (FP.dconst0)]) (st := []) t_o9 (en2) rfl rfl (Nat.le_of_ble_eq_true rfl)) ?_
    refine px (fun _ => pm_iinc (x := nI j) (v := nI (j + 1)) (lv' := [(4, .int (nI (j + 1))), (3, .int (nI i)), (0, .int (0)), (1, .ref (8 + 3 * a)), (2, .ref (8 + 3 * o9))]) (pc := 30) d_Wk_sum_30 rfl (nI_1 _) (by decide) rfl) ?_
    refine px (fun _ => pm_goto (tgt := 13) (pc := 33) d_Wk_sum_33 (by decide)) ?_
    refine pxd [0, 1, 2, 3, 4] rfl ?_
    exact ih i (j + 1) _ _ H2 (F.tr (F2)) (iv.step (by omega) hj rfl) hi (by omega) K
set_option maxHeartbeats 4000000 in
set_option maxRecDepth 20000 in
theorem lo_zf0 {l : Launch} {G : pm_G} {fi : Bool} {S : gS} {h0 : pm_H} {Post : pm_O × pm_H → Prop} {a o9 : Nat} (hl : l.stackTraces = false) (hW : gW S) (ho : o9 < 20) (ha : a < 20) (na : a ≠ o9) : ∀ (d i : Nat) (f : Nat → UInt64) (h : pm_H), gH (gsC S o9 f) h → gFr h0 h → g_inv (fun _ _ => FP.dconst0) (gT S o9 2) f (i) (0) → i + d = gT S o9 1 → (∀ f1 h1, gH (gsC S o9 f1) h1 → gFr h0 h1 → g_inv (fun _ _ => FP.dconst0) (gT S o9 2) f1 (gT S o9 1) (0) → pm_Px l G fi fi 0 0 M_Wk_sum 42 [(0, .int (0)), (1, .ref (8 + 3 * a)), (2, .ref (8 + 3 * o9))] [] h1 Post) → pm_Px l G fi fi 0 0 M_Wk_sum 2 [(3, .int (nI i)), (0, .int (0)), (1, .ref (8 + 3 * a)), (2, .ref (8 + 3 * o9))] [] h Post := by
  intro d
  induction d with
  | zero =>
    intro i f h H F iv hd9 K
    have bo := hW.2.2.2.2.1 o9 ho
    have t_a : h[8 + 3 * a]? = some (pm_Ob 2 [.ref (9 + 3 * a), .int (nI (gT S a 0)), .int (nI (gT S a 1)), .int (nI (gT S a 2))]) := (H.2.2.2.2.2.2.1 a ha).2.1
    have t_o9 : h[8 + 3 * o9]? = some (pm_Ob 2 [.ref (9 + 3 * o9), .int (nI (gT S o9 0)), .int (nI (gT S o9 1)), .int (nI (gT S o9 2))]) := (H.2.2.2.2.2.2.1 o9 ho).2.1
    have ej : i = gT S o9 1 := by omega
    refine px (fun _ => pm_iload_n (pc := 2) d_Wk_sum_2 rfl) ?_
    refine px (fun _ => pm_aload_n (pc := 3) d_Wk_sum_3 rfl) ?_
    refine px (fun _ => pm_getf fl_Wk_53 (pc := 4) d_Wk_sum_4 t_o9 rfl) ?_
    refine pxb (fun _ => pm_icmp_ge (pc := 7) (tgt := 42) d_Wk_sum_7 (by decide)) (fun c_1 => ?_) (fun c_1 => absurd (by rw [ej]; exact (nI_leI (a := gT S o9 1) (b := gT S o9 1) (by omega) (by omega)).mpr (Nat.le_refl _)) c_1)
    refine pxd [1, 2, 3] rfl ?_
    exact K f h H F (by rw [ej] at iv; exact iv)
  | succ d ih =>
    intro i f h H F iv hd9 K
    have bo := hW.2.2.2.2.1 o9 ho
    have t_a : h[8 + 3 * a]? = some (pm_Ob 2 [.ref (9 + 3 * a), .int (nI (gT S a 0)), .int (nI (gT S a 1)), .int (nI (gT S a 2))]) := (H.2.2.2.2.2.2.1 a ha).2.1
    have t_o9 : h[8 + 3 * o9]? = some (pm_Ob 2 [.ref (9 + 3 * o9), .int (nI (gT S o9 0)), .int (nI (gT S o9 1)), .int (nI (gT S o9 2))]) := (H.2.2.2.2.2.2.1 o9 ho).2.1
    refine px (fun _ => pm_iload_n (pc := 2) d_Wk_sum_2 rfl) ?_
    refine px (fun _ => pm_aload_n (pc := 3) d_Wk_sum_3 rfl) ?_
    refine px (fun _ => pm_getf fl_Wk_53 (pc := 4) d_Wk_sum_4 t_o9 rfl) ?_
    refine pxb (fun _ => pm_icmp_ge (pc := 7) (tgt := 42) d_Wk_sum_7 (by decide)) (fun c_1 => absurd c_1 (fun q => absurd ((nI_leI (a := gT S o9 1) (b := i) (by omega) (by omega)).mp q) (by omega))) (fun c_1 => ?_)
    refine px (fun _ => pm_iconst (v := 0) (pc := 10) d_Wk_sum_10 rfl) ?_
    refine px (fun _ => pm_istore (lv' := [(4, .int (0)), (3, .int (nI i)), (0, .int (0)), (1, .ref (8 + 3 * a)), (2, .ref (8 + 3 * o9))]) (pc := 11) d_Wk_sum_11 (by decide) rfl) ?_
    refine pxd [0, 1, 2, 3, 4] rfl ?_
    exact li_zf0 hl hW ho ha na (gT S o9 2) i 0 f h H F iv (by omega) (by omega) (fun f1 h1 a1 a2 a3 => ih (i + 1) f1 h1 a1 a2 a3 (by omega) K)
set_option maxHeartbeats 4000000 in
set_option maxRecDepth 20000 in
theorem li_sum0 {l : Launch} {G : pm_G} {fi : Bool} {S : gS} {h0 : pm_H} {Post : pm_O × pm_H → Prop} {a o9 : Nat} (hl : l.stackTraces = false) (hW : gW S) (ho : o9 < 20) (ha : a < 20) (na : a ≠ o9) (sr : gT S o9 1 = 1) (sc : gT S o9 2 = gT S a 2) (hBa : ∀ x k, x < gT S a 1 → k < gT S a 2 → gB (gC S a (x * 4 + k))) : ∀ (d i j : Nat) (f : Nat → UInt64) (h : pm_H), gH (gsC S o9 f) h → gFr h0 h → g_s0 S a f (i) (j) → i < gT S a 1 → j + d = gT S a 2 → (∀ f1 h1, gH (gsC S o9 f1) h1 → gFr h0 h1 → g_s0 S a f1 ((i + 1)) (0) → pm_Px l G fi fi 0 0 M_Wk_sum 44 [(3, .int (nI (i + 1))), (0, .int (0)), (1, .ref (8 + 3 * a)), (2, .ref (8 + 3 * o9))] [] h1 Post) → pm_Px l G fi fi 0 0 M_Wk_sum 55 [(4, .int (nI j)), (3, .int (nI i)), (0, .int (0)), (1, .ref (8 + 3 * a)), (2, .ref (8 + 3 * o9))] [] h Post := by
  intro d
  induction d with
  | zero =>
    intro i j f h H F iv hi hd9 K
    have bo := hW.2.2.2.2.1 o9 ho
    have ba := hW.2.2.2.2.1 a ha
    have t_a : h[8 + 3 * a]? = some (pm_Ob 2 [.ref (9 + 3 * a), .int (nI (gT S a 0)), .int (nI (gT S a 1)), .int (nI (gT S a 2))]) := (H.2.2.2.2.2.2.1 a ha).2.1
    have t_o9 : h[8 + 3 * o9]? = some (pm_Ob 2 [.ref (9 + 3 * o9), .int (nI (gT S o9 0)), .int (nI (gT S o9 1)), .int (nI (gT S o9 2))]) := (H.2.2.2.2.2.2.1 o9 ho).2.1
    have ej : j = gT S a 2 := by omega
    refine px (fun _ => pm_iload (pc := 55) d_Wk_sum_55 rfl) ?_
    refine px (fun _ => pm_aload_n (pc := 57) d_Wk_sum_57 rfl) ?_
    refine px (fun _ => pm_getf fl_Wk_58 (pc := 58) d_Wk_sum_58 t_a rfl) ?_
    refine pxb (fun _ => pm_icmp_ge (pc := 61) (tgt := 147) d_Wk_sum_61 (by decide)) (fun c_1 => ?_) (fun c_1 => absurd (by rw [ej]; exact (nI_leI (a := gT S a 2) (b := gT S a 2) (by omega) (by omega)).mpr (Nat.le_refl _)) c_1)
    refine px (fun _ => pm_iinc (x := nI i) (v := nI (i + 1)) (lv' := [(3, .int (nI (i + 1))), (4, .int (nI j)), (0, .int (0)), (1, .ref (8 + 3 * a)), (2, .ref (8 + 3 * o9))]) (pc := 147) d_Wk_sum_147 rfl (nI_1 _) (by decide) rfl) ?_
    refine px (fun _ => pm_goto (tgt := 44) (pc := 150) d_Wk_sum_150 (by decide)) ?_
    refine pxd [0, 2, 3, 4] rfl ?_
    exact K f h H F (by rw [ej] at iv; exact iv.row)
  | succ d ih =>
    intro i j f h H F iv hi hd9 K
    have bo := hW.2.2.2.2.1 o9 ho
    have ba := hW.2.2.2.2.1 a ha
    have t_a : h[8 + 3 * a]? = some (pm_Ob 2 [.ref (9 + 3 * a), .int (nI (gT S a 0)), .int (nI (gT S a 1)), .int (nI (gT S a 2))]) := (H.2.2.2.2.2.2.1 a ha).2.1
    have t_o9 : h[8 + 3 * o9]? = some (pm_Ob 2 [.ref (9 + 3 * o9), .int (nI (gT S o9 0)), .int (nI (gT S o9 1)), .int (nI (gT S o9 2))]) := (H.2.2.2.2.2.2.1 o9 ho).2.1
    have hj : j < gT S a 2 := by omega
    have nn : ¬ gT S a 0 = 1 → vf_n64 (FP.dadd (f (0 * 4 + j)) (gC S a (i * 4 + j))) := by
      intro hty
      refine g_ad_n (m := i) (by omega) ?_ (hBa i j hi hj)
      rw [iv j hj, if_neg (by omega)]
      exact g_acc_B hty i (by omega) (fun k hk => hBa k j (by omega) hj)
    refine px (fun _ => pm_iload (pc := 55) d_Wk_sum_55 rfl) ?_
    refine px (fun _ => pm_aload_n (pc := 57) d_Wk_sum_57 rfl) ?_
    refine px (fun _ => pm_getf fl_Wk_58 (pc := 58) d_Wk_sum_58 t_a rfl) ?_
    refine pxb (fun _ => pm_icmp_ge (pc := 61) (tgt := 147) d_Wk_sum_61 (by decide)) (fun c_1 => absurd c_1 (fun q => absurd ((nI_leI (a := gT S a 2) (b := j) (by omega) (by omega)).mp q) (by omega))) (fun c_1 => ?_)
    refine px (fun _ => pm_iload_n (pc := 64) d_Wk_sum_64 rfl) ?_
    refine pxn (fun _ => pm_if_ne (pc := 65) (tgt := 72) d_Wk_sum_65 (by decide)) (fun c_2 => absurd (by decide) c_2) (fun c_2 => ?_)
    refine px (fun _ => pm_iconst (v := 0) (pc := 68) d_Wk_sum_68 rfl) ?_
    refine px (fun _ => pm_goto (tgt := 73) (pc := 69) d_Wk_sum_69 (by decide)) ?_
    refine px (fun _ => pm_istore (lv' := [(5, .int (0)), (4, .int (nI j)), (3, .int (nI i)), (0, .int (0)), (1, .ref (8 + 3 * a)), (2, .ref (8 + 3 * o9))]) (pc := 73) d_Wk_sum_73 (by decide) rfl) ?_
    refine px (fun _ => pm_iload_n (pc := 75) d_Wk_sum_75 rfl) ?_
    refine pxn (fun _ => pm_if_ne (pc := 76) (tgt := 84) d_Wk_sum_76 (by decide)) (fun c_3 => absurd (by decide) c_3) (fun c_3 => ?_)
    refine px (fun _ => pm_iload (pc := 79) d_Wk_sum_79 rfl) ?_
    refine px (fun _ => pm_goto (tgt := 85) (pc := 81) d_Wk_sum_81 (by decide)) ?_
    refine px (fun _ => pm_istore (lv' := [(6, .int (nI j)), (5, .int (0)), (4, .int (nI j)), (3, .int (nI i)), (0, .int (0)), (1, .ref (8 + 3 * a)), (2, .ref (8 + 3 * o9))]) (pc := 85) d_Wk_sum_85 (by decide) rfl) ?_
    refine px (fun _ => pm_aload_n (pc := 87) d_Wk_sum_87 rfl) ?_
    refine px (fun _ => pm_iload (pc := 88) d_Wk_sum_88 rfl) ?_
    refine px (fun _ => pm_iload (pc := 90) d_Wk_sum_90 rfl) ?_
    refine px (fun _ => k_Wk_sum_92 (kc1 := 0) (ks1 := 0) (kc := 0) (ks := 0) (av := [.int (0), .int (nI j)]) (st := []) t_o9 (c_ato (i := 0) (j := j) hl H ho (by omega) (by omega)) rfl rfl (Nat.le_of_ble_eq_true rfl)) ?_
    refine px (fun _ => pm_dstore (lv' := [(7, .double (f (0 * 4 + j))), (6, .int (nI j)), (5, .int (0)), (4, .int (nI j)), (3, .int (nI i)), (0, .int (0)), (1, .ref (8 + 3 * a)), (2, .ref (8 + 3 * o9))]) (pc := 95) d_Wk_sum_95 (by decide) rfl) ?_
    refine px (fun _ => pm_aload_n (pc := 97) d_Wk_sum_97 rfl) ?_
    refine px (fun _ => pm_iload_n (pc := 98) d_Wk_sum_98 rfl) ?_
    refine px (fun _ => pm_iload (pc := 99) d_Wk_sum_99 rfl) ?_
    refine px (fun _ => k_Wk_sum_101 (kc1 := 0) (ks1 := 0) (kc := 0) (ks := 0) (av := [.int (nI i), .int (nI j)]) (st := []) t_a (c_atf (i := i) (j := j) hl H ha na (by omega) (by omega)) rfl rfl (Nat.le_of_ble_eq_true rfl)) ?_
    refine px (fun _ => pm_dstore (lv' := [(9, .double (gC S a (i * 4 + j))), (7, .double (f (0 * 4 + j))), (6, .int (nI j)), (5, .int (0)), (4, .int (nI j)), (3, .int (nI i)), (0, .int (0)), (1, .ref (8 + 3 * a)), (2, .ref (8 + 3 * o9))]) (pc := 104) d_Wk_sum_104 (by decide) rfl) ?_
    refine px (fun _ => pm_aload_n (pc := 106) d_Wk_sum_106 rfl) ?_
    refine px (fun _ => pm_iload (pc := 107) d_Wk_sum_107 rfl) ?_
    refine px (fun _ => pm_iload (pc := 109) d_Wk_sum_109 rfl) ?_
    refine px (fun _ => pm_aload_n (pc := 111) d_Wk_sum_111 rfl) ?_
    refine px (fun _ => pm_getf fl_Wk_84 (pc := 112) d_Wk_sum_112 t_a rfl) ?_
    refine px (fun _ => pm_iconst (v := 1) (pc := 115) d_Wk_sum_115 rfl) ?_
    refine pxn (fun _ => pm_icmp_ne (pc := 116) (tgt := 133) d_Wk_sum_116 (by decide)) (fun c_4 => ?_) (fun c_4 => ?_)
    · have n_c_4 : ¬ ((gT S a 0) = 1) := fun q => c_4 ((nI_eq (a := (gT S a 0)) (b := 1) (by omega) (by omega)).mpr q)
      refine px (fun _ => pm_dload (pc := 133) d_Wk_sum_133 rfl) ?_
      refine px (fun _ => pm_dload (pc := 135) d_Wk_sum_135 rfl) ?_
      refine px (fun _ => pm_dadd (pc := 137) d_Wk_sum_137 (nn (by assumption))) ?_
      obtain ⟨⟨o5, h5⟩, ⟨e5, H5, F5⟩, en5⟩ := c_putf (l := l) (G := G) (fi := fi) (v := (FP.dadd (f (0 * 4 + j)) (gC S a (i * 4 + j)))) hl H hW ho (i := 0) (j := j) (by omega) (by omega)
      dsimp only at e5 H5 F5
      subst e5
      refine px (fun _ => k_Wk_sum_138 (kc1 := 0) (ks1 := 0) (kc := 0) (ks := 0) (av := [.int (0), .int (nI j), .double ((FP.dadd (f (0 * 4 + j)) (gC S a (i * 4 + j))))]) (st := []) t_o9 (en5) rfl rfl (Nat.le_of_ble_eq_true rfl)) ?_
      refine px (fun _ => pm_iinc (x := nI j) (v := nI (j + 1)) (lv' := [(4, .int (nI (j + 1))), (9, .double (gC S a (i * 4 + j))), (7, .double (f (0 * 4 + j))), (6, .int (nI j)), (5, .int (0)), (3, .int (nI i)), (0, .int (0)), (1, .ref (8 + 3 * a)), (2, .ref (8 + 3 * o9))]) (pc := 141) d_Wk_sum_141 rfl (nI_1 _) (by decide) rfl) ?_
      refine px (fun _ => pm_goto (tgt := 55) (pc := 144) d_Wk_sum_144 (by decide)) ?_
      refine pxd [0, 5, 6, 7, 8] rfl ?_
      exact ih i (j + 1) _ _ H5 (F.tr (F5)) (iv.step hj (by simp only [g_ad]; rw [if_neg (by assumption)])) hi (by omega) K
    · have n_c_4 : (gT S a 0) = 1 := (nI_eq (a := (gT S a 0)) (b := 1) (by omega) (by omega)).mp c_4
      refine px (fun _ => pm_iconst (v := 0) (pc := 119) d_Wk_sum_119 rfl) ?_
      refine px (fun _ => pm_dload (pc := 120) d_Wk_sum_120 rfl) ?_
      refine px (fun _ => pm_d2i (pc := 122) d_Wk_sum_122) ?_
      refine px (fun _ => pm_dload (pc := 123) d_Wk_sum_123 rfl) ?_
      refine px (fun _ => pm_d2i (pc := 125) d_Wk_sum_125) ?_
      refine px (fun _ => k_Wk_sum_126 (kc1 := 0) (ks1 := 0) (kc := 0) (ks := 0) (av := [.int (0), .int ((FP.d2i (f (0 * 4 + j)))), .int ((FP.d2i (gC S a (i * 4 + j))))]) (st := [.int (nI j), .int (0), .ref (8 + 3 * o9)]) (c_pi0 hl) rfl rfl (Nat.le_of_ble_eq_true rfl)) ?_
      refine px (fun _ => pm_i2d (pc := 129) d_Wk_sum_129) ?_
      refine px (fun _ => pm_goto (tgt := 138) (pc := 130) d_Wk_sum_130 (by decide)) ?_
      obtain ⟨⟨o6, h6⟩, ⟨e6, H6, F6⟩, en6⟩ := c_putf (l := l) (G := G) (fi := fi) (v := (FP.i2d (g_pi 0 (FP.d2i (f (0 * 4 + j))) (FP.d2i (gC S a (i * 4 + j)))))) hl H hW ho (i := 0) (j := j) (by omega) (by omega)
      dsimp only at e6 H6 F6
      subst e6
      refine px (fun _ => k_Wk_sum_138 (kc1 := 0) (ks1 := 0) (kc := 0) (ks := 0) (av := [.int (0), .int (nI j), .double ((FP.i2d (g_pi 0 (FP.d2i (f (0 * 4 + j))) (FP.d2i (gC S a (i * 4 + j))))))]) (st := []) t_o9 (en6) rfl rfl (Nat.le_of_ble_eq_true rfl)) ?_
      refine px (fun _ => pm_iinc (x := nI j) (v := nI (j + 1)) (lv' := [(4, .int (nI (j + 1))), (9, .double (gC S a (i * 4 + j))), (7, .double (f (0 * 4 + j))), (6, .int (nI j)), (5, .int (0)), (3, .int (nI i)), (0, .int (0)), (1, .ref (8 + 3 * a)), (2, .ref (8 + 3 * o9))]) (pc := 141) d_Wk_sum_141 rfl (nI_1 _) (by decide) rfl) ?_
      refine px (fun _ => pm_goto (tgt := 55) (pc := 144) d_Wk_sum_144 (by decide)) ?_
      refine pxd [0, 5, 6, 7, 8] rfl ?_
      exact ih i (j + 1) _ _ H6 (F.tr (F6)) (iv.step hj (by simp only [g_ad]; rw [if_pos (by assumption)])) hi (by omega) K
set_option maxHeartbeats 4000000 in
set_option maxRecDepth 20000 in
theorem lo_sum0 {l : Launch} {G : pm_G} {fi : Bool} {S : gS} {h0 : pm_H} {Post : pm_O × pm_H → Prop} {a o9 : Nat} (hl : l.stackTraces = false) (hW : gW S) (ho : o9 < 20) (ha : a < 20) (na : a ≠ o9) (sr : gT S o9 1 = 1) (sc : gT S o9 2 = gT S a 2) (hBa : ∀ x k, x < gT S a 1 → k < gT S a 2 → gB (gC S a (x * 4 + k))) : ∀ (d i : Nat) (f : Nat → UInt64) (h : pm_H), gH (gsC S o9 f) h → gFr h0 h → g_s0 S a f (i) (0) → i + d = gT S a 1 → (∀ f1 h1, gH (gsC S o9 f1) h1 → gFr h0 h1 → g_s0 S a f1 (gT S a 1) (0) → pm_Px l G fi fi 0 0 M_Wk_sum 153 [(0, .int (0)), (1, .ref (8 + 3 * a)), (2, .ref (8 + 3 * o9))] [] h1 Post) → pm_Px l G fi fi 0 0 M_Wk_sum 44 [(3, .int (nI i)), (0, .int (0)), (1, .ref (8 + 3 * a)), (2, .ref (8 + 3 * o9))] [] h Post := by
  intro d
  induction d with
  | zero =>
    intro i f h H F iv hd9 K
    have bo := hW.2.2.2.2.1 o9 ho
    have ba := hW.2.2.2.2.1 a ha
    have t_a : h[8 + 3 * a]? = some (pm_Ob 2 [.ref (9 + 3 * a), .int (nI (gT S a 0)), .int (nI (gT S a 1)), .int (nI (gT S a 2))]) := (H.2.2.2.2.2.2.1 a ha).2.1
    have t_o9 : h[8 + 3 * o9]? = some (pm_Ob 2 [.ref (9 + 3 * o9), .int (nI (gT S o9 0)), .int (nI (gT S o9 1)), .int (nI (gT S o9 2))]) := (H.2.2.2.2.2.2.1 o9 ho).2.1
    have ej : i = gT S a 1 := by omega
    refine px (fun _ => pm_iload_n (pc := 44) d_Wk_sum_44 rfl) ?_
    refine px (fun _ => pm_aload_n (pc := 45) d_Wk_sum_45 rfl) ?_
    refine px (fun _ => pm_getf fl_Wk_53 (pc := 46) d_Wk_sum_46 t_a rfl) ?_
    refine pxb (fun _ => pm_icmp_ge (pc := 49) (tgt := 153) d_Wk_sum_49 (by decide)) (fun c_1 => ?_) (fun c_1 => absurd (by rw [ej]; exact (nI_leI (a := gT S a 1) (b := gT S a 1) (by omega) (by omega)).mpr (Nat.le_refl _)) c_1)
    refine pxd [1, 2, 3] rfl ?_
    exact K f h H F (by rw [ej] at iv; exact iv)
  | succ d ih =>
    intro i f h H F iv hd9 K
    have bo := hW.2.2.2.2.1 o9 ho
    have ba := hW.2.2.2.2.1 a ha
    have t_a : h[8 + 3 * a]? = some (pm_Ob 2 [.ref (9 + 3 * a), .int (nI (gT S a 0)), .int (nI (gT S a 1)), .int (nI (gT S a 2))]) := (H.2.2.2.2.2.2.1 a ha).2.1
    have t_o9 : h[8 + 3 * o9]? = some (pm_Ob 2 [.ref (9 + 3 * o9), .int (nI (gT S o9 0)), .int (nI (gT S o9 1)), .int (nI (gT S o9 2))]) := (H.2.2.2.2.2.2.1 o9 ho).2.1
    refine px (fun _ => pm_iload_n (pc := 44) d_Wk_sum_44 rfl) ?_
    refine px (fun _ => pm_aload_n (pc := 45) d_Wk_sum_45 rfl) ?_
    refine px (fun _ => pm_getf fl_Wk_53 (pc := 46) d_Wk_sum_46 t_a rfl) ?_
    refine pxb (fun _ => pm_icmp_ge (pc := 49) (tgt := 153) d_Wk_sum_49 (by decide)) (fun c_1 => absurd c_1 (fun q => absurd ((nI_leI (a := gT S a 1) (b := i) (by omega) (by omega)).mp q) (by omega))) (fun c_1 => ?_)
    refine px (fun _ => pm_iconst (v := 0) (pc := 52) d_Wk_sum_52 rfl) ?_
    refine px (fun _ => pm_istore (lv' := [(4, .int (0)), (3, .int (nI i)), (0, .int (0)), (1, .ref (8 + 3 * a)), (2, .ref (8 + 3 * o9))]) (pc := 53) d_Wk_sum_53 (by decide) rfl) ?_
    refine pxd [0, 1, 2, 3, 4] rfl ?_
    exact li_sum0 hl hW ho ha na sr sc hBa (gT S a 2) i 0 f h H F iv (by omega) (by omega) (fun f1 h1 a1 a2 a3 => ih (i + 1) f1 h1 a1 a2 a3 (by omega) K)
set_option maxHeartbeats 4000000 in
set_option maxRecDepth 20000 in
theorem w_sum0 {l : Launch} {G : pm_G} {fi : Bool} {h : pm_H} {S : gS} {a o9 : Nat} (hl : l.stackTraces = false) (H : gH S h) (hW : gW S) (ho : o9 < 20) (ha : a < 20) (na : a ≠ o9) (sr : gT S o9 1 = 1) (sc : gT S o9 2 = gT S a 2) (hBa : ∀ x k, x < gT S a 1 → k < gT S a 2 → gB (gC S a (x * 4 + k))) : pm_Cn l G fi fi 0 0 M_Wk_sum [.int (0), .ref (8 + 3 * a), .ref (8 + 3 * o9)] h (g_Pw S o9 h (fun x y => g_acc (gT S a 0) (g_c0 S a y) (gT S a 1)) (gT S o9 1) (gT S o9 2) (.inl none)) := by
  refine pm_Cn.of hl (by decide) (Nat.le_of_ble_eq_true rfl) ?_
  have ba := hW.2.2.2.2.1 a ha
  have bo := hW.2.2.2.2.1 o9 ho
  refine px (fun _ => pm_iconst (v := 0) (pc := 0) d_Wk_sum_0 rfl) ?_
  refine px (fun _ => pm_istore_n (lv' := [(3, .int (0)), (0, .int (0)), (1, .ref (8 + 3 * a)), (2, .ref (8 + 3 * o9))]) (pc := 1) d_Wk_sum_1 (by decide) rfl) ?_
  refine lo_zf0 hl hW ho ha na (gT S o9 1) 0 (gC S o9) h (by rw [gsC_self]; exact H) (gFr.rf h) g_inv.z (by omega) (fun f1 h1 H1 F1 iv => ?_)
  refine px (fun _ => pm_iconst (v := 0) (pc := 42) d_Wk_sum_42 rfl) ?_
  refine px (fun _ => pm_istore_n (lv' := [(3, .int (0)), (0, .int (0)), (1, .ref (8 + 3 * a)), (2, .ref (8 + 3 * o9))]) (pc := 43) d_Wk_sum_43 (by decide) rfl) ?_
  refine lo_sum0 hl hW ho ha na sr sc hBa (gT S a 1) 0 f1 h1 H1 F1 (fun y hy => by rw [iv 0 y (by omega) (by omega), if_neg (by omega)]; rfl) (by omega) (fun f2 h2 H2 F2 iv2 => ?_)
  exact pxr (pm_vret (pc := 153) d_Wk_sum_153 rfl) ⟨rfl, f2, H2, F2, fun x y hy q => by have e9 := iv2 y (by omega); rw [if_neg (by omega)] at e9; rw [show x = 0 by omega]; exact e9⟩
set_option maxHeartbeats 4000000 in
set_option maxRecDepth 20000 in
theorem li_zf1 {l : Launch} {G : pm_G} {fi : Bool} {S : gS} {h0 : pm_H} {Post : pm_O × pm_H → Prop} {a o9 : Nat} (hl : l.stackTraces = false) (hW : gW S) (ho : o9 < 20) (ha : a < 20) (na : a ≠ o9) : ∀ (d i j : Nat) (f : Nat → UInt64) (h : pm_H), gH (gsC S o9 f) h → gFr h0 h → g_inv (fun _ _ => FP.dconst0) (gT S o9 2) f (i) (j) → i < gT S o9 1 → j + d = gT S o9 2 → (∀ f1 h1, gH (gsC S o9 f1) h1 → gFr h0 h1 → g_inv (fun _ _ => FP.dconst0) (gT S o9 2) f1 ((i + 1)) (0) → pm_Px l G fi fi 0 0 M_Wk_sum 2 [(3, .int (nI (i + 1))), (0, .int (1)), (1, .ref (8 + 3 * a)), (2, .ref (8 + 3 * o9))] [] h1 Post) → pm_Px l G fi fi 0 0 M_Wk_sum 13 [(4, .int (nI j)), (3, .int (nI i)), (0, .int (1)), (1, .ref (8 + 3 * a)), (2, .ref (8 + 3 * o9))] [] h Post := by
  intro d
  induction d with
  | zero =>
    intro i j f h H F iv hi hd9 K
    have bo := hW.2.2.2.2.1 o9 ho
    have t_a : h[8 + 3 * a]? = some (pm_Ob 2 [.ref (9 + 3 * a), .int (nI (gT S a 0)), .int (nI (gT S a 1)), .int (nI (gT S a 2))]) := (H.2.2.2.2.2.2.1 a ha).2.1
    have t_o9 : h[8 + 3 * o9]? = some (pm_Ob 2 [.ref (9 + 3 * o9), .int (nI (gT S o9 0)), .int (nI (gT S o9 1)), .int (nI (gT S o9 2))]) := (H.2.2.2.2.2.2.1 o9 ho).2.1
    have ej : j = gT S o9 2 := by omega
    refine px (fun _ => pm_iload (pc := 13) d_Wk_sum_13 rfl) ?_
    refine px (fun _ => pm_aload_n (pc := 15) d_Wk_sum_15 rfl) ?_
    refine px (fun _ => pm_getf fl_Wk_58 (pc := 16) d_Wk_sum_16 t_o9 rfl) ?_
    refine pxb (fun _ => pm_icmp_ge (pc := 19) (tgt := 36) d_Wk_sum_19 (by decide)) (fun c_1 => ?_) (fun c_1 => absurd (by rw [ej]; exact (nI_leI (a := gT S o9 2) (b := gT S o9 2) (by omega) (by omega)).mpr (Nat.le_refl _)) c_1)
    refine px (fun _ => pm_iinc (x := nI i) (v := nI (i + 1)) (lv' := [(3, .int (nI (i + 1))), (4, .int (nI j)), (0, .int (1)), (1, .ref (8 + 3 * a)), (2, .ref (8 + 3 * o9))]) (pc := 36) d_Wk_sum_36 rfl (nI_1 _) (by decide) rfl) ?_
    refine px (fun _ => pm_goto (tgt := 2) (pc := 39) d_Wk_sum_39 (by decide)) ?_
    refine pxd [0, 2, 3, 4] rfl ?_
    exact K f h H F (by rw [ej] at iv; exact iv.row)
  | succ d ih =>
    intro i j f h H F iv hi hd9 K
    have bo := hW.2.2.2.2.1 o9 ho
    have t_a : h[8 + 3 * a]? = some (pm_Ob 2 [.ref (9 + 3 * a), .int (nI (gT S a 0)), .int (nI (gT S a 1)), .int (nI (gT S a 2))]) := (H.2.2.2.2.2.2.1 a ha).2.1
    have t_o9 : h[8 + 3 * o9]? = some (pm_Ob 2 [.ref (9 + 3 * o9), .int (nI (gT S o9 0)), .int (nI (gT S o9 1)), .int (nI (gT S o9 2))]) := (H.2.2.2.2.2.2.1 o9 ho).2.1
    have hj : j < gT S o9 2 := by omega
    refine px (fun _ => pm_iload (pc := 13) d_Wk_sum_13 rfl) ?_
    refine px (fun _ => pm_aload_n (pc := 15) d_Wk_sum_15 rfl) ?_
    refine px (fun _ => pm_getf fl_Wk_58 (pc := 16) d_Wk_sum_16 t_o9 rfl) ?_
    refine pxb (fun _ => pm_icmp_ge (pc := 19) (tgt := 36) d_Wk_sum_19 (by decide)) (fun c_1 => absurd c_1 (fun q => absurd ((nI_leI (a := gT S o9 2) (b := j) (by omega) (by omega)).mp q) (by omega))) (fun c_1 => ?_)
    refine px (fun _ => pm_aload_n (pc := 22) d_Wk_sum_22 rfl) ?_
    refine px (fun _ => pm_iload_n (pc := 23) d_Wk_sum_23 rfl) ?_
    refine px (fun _ => pm_iload (pc := 24) d_Wk_sum_24 rfl) ?_
    refine px (fun _ => pm_dconst0 (pc := 26) d_Wk_sum_26) ?_
    obtain ⟨⟨o2, h2⟩, ⟨e2, H2, F2⟩, en2⟩ := c_putf (l := l) (G := G) (fi := fi) (v := FP.dconst0) hl H hW ho (i := i) (j := j) (by omega) (by omega)
    dsimp only at e2 H2 F2
    subst e2
    refine px (fun _ => k_Wk_sum_27 (kc1 := 0) (ks1 := 0) (kc := 0) (ks := 0) (av := [.int (nI i), .int (nI j), .double (FP.dconst0)]) (st := []) t_o9 (en2) rfl rfl (Nat.le_of_ble_eq_true rfl)) ?_
    refine px (fun _ => pm_iinc (x := nI j) (v := nI (j + 1)) (lv' := [(4, .int (nI (j + 1))), (3, .int (nI i)), (0, .int (1)), (1, .ref (8 + 3 * a)), (2, .ref (8 + 3 * o9))]) (pc := 30) d_Wk_sum_30 rfl (nI_1 _) (by decide) rfl) ?_
    refine px (fun _ => pm_goto (tgt := 13) (pc := 33) d_Wk_sum_33 (by decide)) ?_
    refine pxd [0, 1, 2, 3, 4] rfl ?_
    exact ih i (j + 1) _ _ H2 (F.tr (F2)) (iv.step (by omega) hj rfl) hi (by omega) K
set_option maxHeartbeats 4000000 in
set_option maxRecDepth 20000 in
theorem lo_zf1 {l : Launch} {G : pm_G} {fi : Bool} {S : gS} {h0 : pm_H} {Post : pm_O × pm_H → Prop} {a o9 : Nat} (hl : l.stackTraces = false) (hW : gW S) (ho : o9 < 20) (ha : a < 20) (na : a ≠ o9) : ∀ (d i : Nat) (f : Nat → UInt64) (h : pm_H), gH (gsC S o9 f) h → gFr h0 h → g_inv (fun _ _ => FP.dconst0) (gT S o9 2) f (i) (0) → i + d = gT S o9 1 → (∀ f1 h1, gH (gsC S o9 f1) h1 → gFr h0 h1 → g_inv (fun _ _ => FP.dconst0) (gT S o9 2) f1 (gT S o9 1) (0) → pm_Px l G fi fi 0 0 M_Wk_sum 42 [(0, .int (1)), (1, .ref (8 + 3 * a)), (2, .ref (8 + 3 * o9))] [] h1 Post) → pm_Px l G fi fi 0 0 M_Wk_sum 2 [(3, .int (nI i)), (0, .int (1)), (1, .ref (8 + 3 * a)), (2, .ref (8 + 3 * o9))] [] h Post := by
  intro d
  induction d with
  | zero =>
    intro i f h H F iv hd9 K
    have bo := hW.2.2.2.2.1 o9 ho
    have t_a : h[8 + 3 * a]? = some (pm_Ob 2 [.ref (9 + 3 * a), .int (nI (gT S a 0)), .int (nI (gT S a 1)), .int (nI (gT S a 2))]) := (H.2.2.2.2.2.2.1 a ha).2.1
    have t_o9 : h[8 + 3 * o9]? = some (pm_Ob 2 [.ref (9 + 3 * o9), .int (nI (gT S o9 0)), .int (nI (gT S o9 1)), .int (nI (gT S o9 2))]) := (H.2.2.2.2.2.2.1 o9 ho).2.1
    have ej : i = gT S o9 1 := by omega
    refine px (fun _ => pm_iload_n (pc := 2) d_Wk_sum_2 rfl) ?_
    refine px (fun _ => pm_aload_n (pc := 3) d_Wk_sum_3 rfl) ?_
    refine px (fun _ => pm_getf fl_Wk_53 (pc := 4) d_Wk_sum_4 t_o9 rfl) ?_
    refine pxb (fun _ => pm_icmp_ge (pc := 7) (tgt := 42) d_Wk_sum_7 (by decide)) (fun c_1 => ?_) (fun c_1 => absurd (by rw [ej]; exact (nI_leI (a := gT S o9 1) (b := gT S o9 1) (by omega) (by omega)).mpr (Nat.le_refl _)) c_1)
    refine pxd [1, 2, 3] rfl ?_
    exact K f h H F (by rw [ej] at iv; exact iv)
  | succ d ih =>
    intro i f h H F iv hd9 K
    have bo := hW.2.2.2.2.1 o9 ho
    have t_a : h[8 + 3 * a]? = some (pm_Ob 2 [.ref (9 + 3 * a), .int (nI (gT S a 0)), .int (nI (gT S a 1)), .int (nI (gT S a 2))]) := (H.2.2.2.2.2.2.1 a ha).2.1
    have t_o9 : h[8 + 3 * o9]? = some (pm_Ob 2 [.ref (9 + 3 * o9), .int (nI (gT S o9 0)), .int (nI (gT S o9 1)), .int (nI (gT S o9 2))]) := (H.2.2.2.2.2.2.1 o9 ho).2.1
    refine px (fun _ => pm_iload_n (pc := 2) d_Wk_sum_2 rfl) ?_
    refine px (fun _ => pm_aload_n (pc := 3) d_Wk_sum_3 rfl) ?_
    refine px (fun _ => pm_getf fl_Wk_53 (pc := 4) d_Wk_sum_4 t_o9 rfl) ?_
    refine pxb (fun _ => pm_icmp_ge (pc := 7) (tgt := 42) d_Wk_sum_7 (by decide)) (fun c_1 => absurd c_1 (fun q => absurd ((nI_leI (a := gT S o9 1) (b := i) (by omega) (by omega)).mp q) (by omega))) (fun c_1 => ?_)
    refine px (fun _ => pm_iconst (v := 0) (pc := 10) d_Wk_sum_10 rfl) ?_
    refine px (fun _ => pm_istore (lv' := [(4, .int (0)), (3, .int (nI i)), (0, .int (1)), (1, .ref (8 + 3 * a)), (2, .ref (8 + 3 * o9))]) (pc := 11) d_Wk_sum_11 (by decide) rfl) ?_
    refine pxd [0, 1, 2, 3, 4] rfl ?_
    exact li_zf1 hl hW ho ha na (gT S o9 2) i 0 f h H F iv (by omega) (by omega) (fun f1 h1 a1 a2 a3 => ih (i + 1) f1 h1 a1 a2 a3 (by omega) K)
set_option maxHeartbeats 4000000 in
set_option maxRecDepth 20000 in
theorem li_sum1 {l : Launch} {G : pm_G} {fi : Bool} {S : gS} {h0 : pm_H} {Post : pm_O × pm_H → Prop} {a o9 : Nat} (hl : l.stackTraces = false) (hW : gW S) (ho : o9 < 20) (ha : a < 20) (na : a ≠ o9) (sr : gT S o9 1 = gT S a 1) (sc : gT S o9 2 = 1) (hBa : ∀ x k, x < gT S a 1 → k < gT S a 2 → gB (gC S a (x * 4 + k))) : ∀ (d i j : Nat) (f : Nat → UInt64) (h : pm_H), gH (gsC S o9 f) h → gFr h0 h → g_s1 S a f (i) (j) → i < gT S a 1 → j + d = gT S a 2 → (∀ f1 h1, gH (gsC S o9 f1) h1 → gFr h0 h1 → g_s1 S a f1 ((i + 1)) (0) → pm_Px l G fi fi 0 0 M_Wk_sum 44 [(3, .int (nI (i + 1))), (0, .int (1)), (1, .ref (8 + 3 * a)), (2, .ref (8 + 3 * o9))] [] h1 Post) → pm_Px l G fi fi 0 0 M_Wk_sum 55 [(4, .int (nI j)), (3, .int (nI i)), (0, .int (1)), (1, .ref (8 + 3 * a)), (2, .ref (8 + 3 * o9))] [] h Post := by
  intro d
  induction d with
  | zero =>
    intro i j f h H F iv hi hd9 K
    have bo := hW.2.2.2.2.1 o9 ho
    have ba := hW.2.2.2.2.1 a ha
    have t_a : h[8 + 3 * a]? = some (pm_Ob 2 [.ref (9 + 3 * a), .int (nI (gT S a 0)), .int (nI (gT S a 1)), .int (nI (gT S a 2))]) := (H.2.2.2.2.2.2.1 a ha).2.1
    have t_o9 : h[8 + 3 * o9]? = some (pm_Ob 2 [.ref (9 + 3 * o9), .int (nI (gT S o9 0)), .int (nI (gT S o9 1)), .int (nI (gT S o9 2))]) := (H.2.2.2.2.2.2.1 o9 ho).2.1
    have ej : j = gT S a 2 := by omega
    refine px (fun _ => pm_iload (pc := 55) d_Wk_sum_55 rfl) ?_
    refine px (fun _ => pm_aload_n (pc := 57) d_Wk_sum_57 rfl) ?_
    refine px (fun _ => pm_getf fl_Wk_58 (pc := 58) d_Wk_sum_58 t_a rfl) ?_
    refine pxb (fun _ => pm_icmp_ge (pc := 61) (tgt := 147) d_Wk_sum_61 (by decide)) (fun c_1 => ?_) (fun c_1 => absurd (by rw [ej]; exact (nI_leI (a := gT S a 2) (b := gT S a 2) (by omega) (by omega)).mpr (Nat.le_refl _)) c_1)
    refine px (fun _ => pm_iinc (x := nI i) (v := nI (i + 1)) (lv' := [(3, .int (nI (i + 1))), (4, .int (nI j)), (0, .int (1)), (1, .ref (8 + 3 * a)), (2, .ref (8 + 3 * o9))]) (pc := 147) d_Wk_sum_147 rfl (nI_1 _) (by decide) rfl) ?_
    refine px (fun _ => pm_goto (tgt := 44) (pc := 150) d_Wk_sum_150 (by decide)) ?_
    refine pxd [0, 2, 3, 4] rfl ?_
    exact K f h H F (by rw [ej] at iv; exact iv.row)
  | succ d ih =>
    intro i j f h H F iv hi hd9 K
    have bo := hW.2.2.2.2.1 o9 ho
    have ba := hW.2.2.2.2.1 a ha
    have t_a : h[8 + 3 * a]? = some (pm_Ob 2 [.ref (9 + 3 * a), .int (nI (gT S a 0)), .int (nI (gT S a 1)), .int (nI (gT S a 2))]) := (H.2.2.2.2.2.2.1 a ha).2.1
    have t_o9 : h[8 + 3 * o9]? = some (pm_Ob 2 [.ref (9 + 3 * o9), .int (nI (gT S o9 0)), .int (nI (gT S o9 1)), .int (nI (gT S o9 2))]) := (H.2.2.2.2.2.2.1 o9 ho).2.1
    have hj : j < gT S a 2 := by omega
    have nn : ¬ gT S a 0 = 1 → vf_n64 (FP.dadd (f (i * 4 + 0)) (gC S a (i * 4 + j))) := by
      intro hty
      refine g_ad_n (m := j) (by omega) ?_ (hBa i j hi hj)
      rw [iv i hi, if_neg (by omega), if_pos rfl]
      exact g_acc_B hty j (by omega) (fun k hk => hBa i k hi (by omega))
    refine px (fun _ => pm_iload (pc := 55) d_Wk_sum_55 rfl) ?_
    refine px (fun _ => pm_aload_n (pc := 57) d_Wk_sum_57 rfl) ?_
    refine px (fun _ => pm_getf fl_Wk_58 (pc := 58) d_Wk_sum_58 t_a rfl) ?_
    refine pxb (fun _ => pm_icmp_ge (pc := 61) (tgt := 147) d_Wk_sum_61 (by decide)) (fun c_1 => absurd c_1 (fun q => absurd ((nI_leI (a := gT S a 2) (b := j) (by omega) (by omega)).mp q) (by omega))) (fun c_1 => ?_)
    refine px (fun _ => pm_iload_n (pc := 64) d_Wk_sum_64 rfl) ?_
    refine pxn (fun _ => pm_if_ne (pc := 65) (tgt := 72) d_Wk_sum_65 (by decide)) (fun c_2 => ?_) (fun c_2 => absurd c_2 (by decide))
    refine px (fun _ => pm_iload_n (pc := 72) d_Wk_sum_72 rfl) ?_
    refine px (fun _ => pm_istore (lv' := [(5, .int (nI i)), (4, .int (nI j)), (3, .int (nI i)), (0, .int (1)), (1, .ref (8 + 3 * a)), (2, .ref (8 + 3 * o9))]) (pc := 73) d_Wk_sum_73 (by decide) rfl) ?_
    refine px (fun _ => pm_iload_n (pc := 75) d_Wk_sum_75 rfl) ?_
    refine pxn (fun _ => pm_if_ne (pc := 76) (tgt := 84) d_Wk_sum_76 (by decide)) (fun c_3 => ?_) (fun c_3 => absurd c_3 (by decide))
    refine px (fun _ => pm_iconst (v := 0) (pc := 84) d_Wk_sum_84 rfl) ?_
    refine px (fun _ => pm_istore (lv' := [(6, .int (0)), (5, .int (nI i)), (4, .int (nI j)), (3, .int (nI i)), (0, .int (1)), (1, .ref (8 + 3 * a)), (2, .ref (8 + 3 * o9))]) (pc := 85) d_Wk_sum_85 (by decide) rfl) ?_
    refine px (fun _ => pm_aload_n (pc := 87) d_Wk_sum_87 rfl) ?_
    refine px (fun _ => pm_iload (pc := 88) d_Wk_sum_88 rfl) ?_
    refine px (fun _ => pm_iload (pc := 90) d_Wk_sum_90 rfl) ?_
    refine px (fun _ => k_Wk_sum_92 (kc1 := 0) (ks1 := 0) (kc := 0) (ks := 0) (av := [.int (nI i), .int (0)]) (st := []) t_o9 (c_ato (i := i) (j := 0) hl H ho (by omega) (by omega)) rfl rfl (Nat.le_of_ble_eq_true rfl)) ?_
    refine px (fun _ => pm_dstore (lv' := [(7, .double (f (i * 4 + 0))), (6, .int (0)), (5, .int (nI i)), (4, .int (nI j)), (3, .int (nI i)), (0, .int (1)), (1, .ref (8 + 3 * a)), (2, .ref (8 + 3 * o9))]) (pc := 95) d_Wk_sum_95 (by decide) rfl) ?_
    refine px (fun _ => pm_aload_n (pc := 97) d_Wk_sum_97 rfl) ?_
    refine px (fun _ => pm_iload_n (pc := 98) d_Wk_sum_98 rfl) ?_
    refine px (fun _ => pm_iload (pc := 99) d_Wk_sum_99 rfl) ?_
    refine px (fun _ => k_Wk_sum_101 (kc1 := 0) (ks1 := 0) (kc := 0) (ks := 0) (av := [.int (nI i), .int (nI j)]) (st := []) t_a (c_atf (i := i) (j := j) hl H ha na (by omega) (by omega)) rfl rfl (Nat.le_of_ble_eq_true rfl)) ?_
    refine px (fun _ => pm_dstore (lv' := [(9, .double (gC S a (i * 4 + j))), (7, .double (f (i * 4 + 0))), (6, .int (0)), (5, .int (nI i)), (4, .int (nI j)), (3, .int (nI i)), (0, .int (1)), (1, .ref (8 + 3 * a)), (2, .ref (8 + 3 * o9))]) (pc := 104) d_Wk_sum_104 (by decide) rfl) ?_
    refine px (fun _ => pm_aload_n (pc := 106) d_Wk_sum_106 rfl) ?_
    refine px (fun _ => pm_iload (pc := 107) d_Wk_sum_107 rfl) ?_
    refine px (fun _ => pm_iload (pc := 109) d_Wk_sum_109 rfl) ?_
    refine px (fun _ => pm_aload_n (pc := 111) d_Wk_sum_111 rfl) ?_
    refine px (fun _ => pm_getf fl_Wk_84 (pc := 112) d_Wk_sum_112 t_a rfl) ?_
    refine px (fun _ => pm_iconst (v := 1) (pc := 115) d_Wk_sum_115 rfl) ?_
    refine pxn (fun _ => pm_icmp_ne (pc := 116) (tgt := 133) d_Wk_sum_116 (by decide)) (fun c_4 => ?_) (fun c_4 => ?_)
    · have n_c_4 : ¬ ((gT S a 0) = 1) := fun q => c_4 ((nI_eq (a := (gT S a 0)) (b := 1) (by omega) (by omega)).mpr q)
      refine px (fun _ => pm_dload (pc := 133) d_Wk_sum_133 rfl) ?_
      refine px (fun _ => pm_dload (pc := 135) d_Wk_sum_135 rfl) ?_
      refine px (fun _ => pm_dadd (pc := 137) d_Wk_sum_137 (nn (by assumption))) ?_
      obtain ⟨⟨o5, h5⟩, ⟨e5, H5, F5⟩, en5⟩ := c_putf (l := l) (G := G) (fi := fi) (v := (FP.dadd (f (i * 4 + 0)) (gC S a (i * 4 + j)))) hl H hW ho (i := i) (j := 0) (by omega) (by omega)
      dsimp only at e5 H5 F5
      subst e5
      refine px (fun _ => k_Wk_sum_138 (kc1 := 0) (ks1 := 0) (kc := 0) (ks := 0) (av := [.int (nI i), .int (0), .double ((FP.dadd (f (i * 4 + 0)) (gC S a (i * 4 + j))))]) (st := []) t_o9 (en5) rfl rfl (Nat.le_of_ble_eq_true rfl)) ?_
      refine px (fun _ => pm_iinc (x := nI j) (v := nI (j + 1)) (lv' := [(4, .int (nI (j + 1))), (9, .double (gC S a (i * 4 + j))), (7, .double (f (i * 4 + 0))), (6, .int (0)), (5, .int (nI i)), (3, .int (nI i)), (0, .int (1)), (1, .ref (8 + 3 * a)), (2, .ref (8 + 3 * o9))]) (pc := 141) d_Wk_sum_141 rfl (nI_1 _) (by decide) rfl) ?_
      refine px (fun _ => pm_goto (tgt := 55) (pc := 144) d_Wk_sum_144 (by decide)) ?_
      refine pxd [0, 5, 6, 7, 8] rfl ?_
      exact ih i (j + 1) _ _ H5 (F.tr (F5)) (iv.step hi (by simp only [g_ad]; rw [if_neg (by assumption)])) hi (by omega) K
    · have n_c_4 : (gT S a 0) = 1 := (nI_eq (a := (gT S a 0)) (b := 1) (by omega) (by omega)).mp c_4
      refine px (fun _ => pm_iconst (v := 0) (pc := 119) d_Wk_sum_119 rfl) ?_
      refine px (fun _ => pm_dload (pc := 120) d_Wk_sum_120 rfl) ?_
      refine px (fun _ => pm_d2i (pc := 122) d_Wk_sum_122) ?_
      refine px (fun _ => pm_dload (pc := 123) d_Wk_sum_123 rfl) ?_
      refine px (fun _ => pm_d2i (pc := 125) d_Wk_sum_125) ?_
      refine px (fun _ => k_Wk_sum_126 (kc1 := 0) (ks1 := 0) (kc := 0) (ks := 0) (av := [.int (0), .int ((FP.d2i (f (i * 4 + 0)))), .int ((FP.d2i (gC S a (i * 4 + j))))]) (st := [.int (0), .int (nI i), .ref (8 + 3 * o9)]) (c_pi0 hl) rfl rfl (Nat.le_of_ble_eq_true rfl)) ?_
      refine px (fun _ => pm_i2d (pc := 129) d_Wk_sum_129) ?_
      refine px (fun _ => pm_goto (tgt := 138) (pc := 130) d_Wk_sum_130 (by decide)) ?_
      obtain ⟨⟨o6, h6⟩, ⟨e6, H6, F6⟩, en6⟩ := c_putf (l := l) (G := G) (fi := fi) (v := (FP.i2d (g_pi 0 (FP.d2i (f (i * 4 + 0))) (FP.d2i (gC S a (i * 4 + j)))))) hl H hW ho (i := i) (j := 0) (by omega) (by omega)
      dsimp only at e6 H6 F6
      subst e6
      refine px (fun _ => k_Wk_sum_138 (kc1 := 0) (ks1 := 0) (kc := 0) (ks := 0) (av := [.int (nI i), .int (0), .double ((FP.i2d (g_pi 0 (FP.d2i (f (i * 4 + 0))) (FP.d2i (gC S a (i * 4 + j))))))]) (st := []) t_o9 (en6) rfl rfl (Nat.le_of_ble_eq_true rfl)) ?_
      refine px (fun _ => pm_iinc (x := nI j) (v := nI (j + 1)) (lv' := [(4, .int (nI (j + 1))), (9, .double (gC S a (i * 4 + j))), (7, .double (f (i * 4 + 0))), (6, .int (0)), (5, .int (nI i)), (3, .int (nI i)), (0, .int (1)), (1, .ref (8 + 3 * a)), (2, .ref (8 + 3 * o9))]) (pc := 141) d_Wk_sum_141 rfl (nI_1 _) (by decide) rfl) ?_
      refine px (fun _ => pm_goto (tgt := 55) (pc := 144) d_Wk_sum_144 (by decide)) ?_
      refine pxd [0, 5, 6, 7, 8] rfl ?_
      exact ih i (j + 1) _ _ H6 (F.tr (F6)) (iv.step hi (by simp only [g_ad]; rw [if_pos (by assumption)])) hi (by omega) K
set_option maxHeartbeats 4000000 in
set_option maxRecDepth 20000 in
theorem lo_sum1 {l : Launch} {G : pm_G} {fi : Bool} {S : gS} {h0 : pm_H} {Post : pm_O × pm_H → Prop} {a o9 : Nat} (hl : l.stackTraces = false) (hW : gW S) (ho : o9 < 20) (ha : a < 20) (na : a ≠ o9) (sr : gT S o9 1 = gT S a 1) (sc : gT S o9 2 = 1) (hBa : ∀ x k, x < gT S a 1 → k < gT S a 2 → gB (gC S a (x * 4 + k))) : ∀ (d i : Nat) (f : Nat → UInt64) (h : pm_H), gH (gsC S o9 f) h → gFr h0 h → g_s1 S a f (i) (0) → i + d = gT S a 1 → (∀ f1 h1, gH (gsC S o9 f1) h1 → gFr h0 h1 → g_s1 S a f1 (gT S a 1) (0) → pm_Px l G fi fi 0 0 M_Wk_sum 153 [(0, .int (1)), (1, .ref (8 + 3 * a)), (2, .ref (8 + 3 * o9))] [] h1 Post) → pm_Px l G fi fi 0 0 M_Wk_sum 44 [(3, .int (nI i)), (0, .int (1)), (1, .ref (8 + 3 * a)), (2, .ref (8 + 3 * o9))] [] h Post := by
  intro d
  induction d with
  | zero =>
    intro i f h H F iv hd9 K
    have bo := hW.2.2.2.2.1 o9 ho
    have ba := hW.2.2.2.2.1 a ha
    have t_a : h[8 + 3 * a]? = some (pm_Ob 2 [.ref (9 + 3 * a), .int (nI (gT S a 0)), .int (nI (gT S a 1)), .int (nI (gT S a 2))]) := (H.2.2.2.2.2.2.1 a ha).2.1
    have t_o9 : h[8 + 3 * o9]? = some (pm_Ob 2 [.ref (9 + 3 * o9), .int (nI (gT S o9 0)), .int (nI (gT S o9 1)), .int (nI (gT S o9 2))]) := (H.2.2.2.2.2.2.1 o9 ho).2.1
    have ej : i = gT S a 1 := by omega
    refine px (fun _ => pm_iload_n (pc := 44) d_Wk_sum_44 rfl) ?_
    refine px (fun _ => pm_aload_n (pc := 45) d_Wk_sum_45 rfl) ?_
    refine px (fun _ => pm_getf fl_Wk_53 (pc := 46) d_Wk_sum_46 t_a rfl) ?_
    refine pxb (fun _ => pm_icmp_ge (pc := 49) (tgt := 153) d_Wk_sum_49 (by decide)) (fun c_1 => ?_) (fun c_1 => absurd (by rw [ej]; exact (nI_leI (a := gT S a 1) (b := gT S a 1) (by omega) (by omega)).mpr (Nat.le_refl _)) c_1)
    refine pxd [1, 2, 3] rfl ?_
    exact K f h H F (by rw [ej] at iv; exact iv)
  | succ d ih =>
    intro i f h H F iv hd9 K
    have bo := hW.2.2.2.2.1 o9 ho
    have ba := hW.2.2.2.2.1 a ha
    have t_a : h[8 + 3 * a]? = some (pm_Ob 2 [.ref (9 + 3 * a), .int (nI (gT S a 0)), .int (nI (gT S a 1)), .int (nI (gT S a 2))]) := (H.2.2.2.2.2.2.1 a ha).2.1
    have t_o9 : h[8 + 3 * o9]? = some (pm_Ob 2 [.ref (9 + 3 * o9), .int (nI (gT S o9 0)), .int (nI (gT S o9 1)), .int (nI (gT S o9 2))]) := (H.2.2.2.2.2.2.1 o9 ho).2.1
    refine px (fun _ => pm_iload_n (pc := 44) d_Wk_sum_44 rfl) ?_
    refine px (fun _ => pm_aload_n (pc := 45) d_Wk_sum_45 rfl) ?_
    refine px (fun _ => pm_getf fl_Wk_53 (pc := 46) d_Wk_sum_46 t_a rfl) ?_
    refine pxb (fun _ => pm_icmp_ge (pc := 49) (tgt := 153) d_Wk_sum_49 (by decide)) (fun c_1 => absurd c_1 (fun q => absurd ((nI_leI (a := gT S a 1) (b := i) (by omega) (by omega)).mp q) (by omega))) (fun c_1 => ?_)
    refine px (fun _ => pm_iconst (v := 0) (pc := 52) d_Wk_sum_52 rfl) ?_
    refine px (fun _ => pm_istore (lv' := [(4, .int (0)), (3, .int (nI i)), (0, .int (1)), (1, .ref (8 + 3 * a)), (2, .ref (8 + 3 * o9))]) (pc := 53) d_Wk_sum_53 (by decide) rfl) ?_
    refine pxd [0, 1, 2, 3, 4] rfl ?_
    exact li_sum1 hl hW ho ha na sr sc hBa (gT S a 2) i 0 f h H F iv (by omega) (by omega) (fun f1 h1 a1 a2 a3 => ih (i + 1) f1 h1 a1 a2 a3 (by omega) K)
set_option maxHeartbeats 4000000 in
set_option maxRecDepth 20000 in
theorem w_sum1 {l : Launch} {G : pm_G} {fi : Bool} {h : pm_H} {S : gS} {a o9 : Nat} (hl : l.stackTraces = false) (H : gH S h) (hW : gW S) (ho : o9 < 20) (ha : a < 20) (na : a ≠ o9) (sr : gT S o9 1 = gT S a 1) (sc : gT S o9 2 = 1) (hBa : ∀ x k, x < gT S a 1 → k < gT S a 2 → gB (gC S a (x * 4 + k))) : pm_Cn l G fi fi 0 0 M_Wk_sum [.int (1), .ref (8 + 3 * a), .ref (8 + 3 * o9)] h (g_Pw S o9 h (fun x y => g_acc (gT S a 0) (g_c1 S a x) (gT S a 2)) (gT S o9 1) (gT S o9 2) (.inl none)) := by
  refine pm_Cn.of hl (by decide) (Nat.le_of_ble_eq_true rfl) ?_
  have ba := hW.2.2.2.2.1 a ha
  have bo := hW.2.2.2.2.1 o9 ho
  refine px (fun _ => pm_iconst (v := 0) (pc := 0) d_Wk_sum_0 rfl) ?_
  refine px (fun _ => pm_istore_n (lv' := [(3, .int (0)), (0, .int (1)), (1, .ref (8 + 3 * a)), (2, .ref (8 + 3 * o9))]) (pc := 1) d_Wk_sum_1 (by decide) rfl) ?_
  refine lo_zf1 hl hW ho ha na (gT S o9 1) 0 (gC S o9) h (by rw [gsC_self]; exact H) (gFr.rf h) g_inv.z (by omega) (fun f1 h1 H1 F1 iv => ?_)
  refine px (fun _ => pm_iconst (v := 0) (pc := 42) d_Wk_sum_42 rfl) ?_
  refine px (fun _ => pm_istore_n (lv' := [(3, .int (0)), (0, .int (1)), (1, .ref (8 + 3 * a)), (2, .ref (8 + 3 * o9))]) (pc := 43) d_Wk_sum_43 (by decide) rfl) ?_
  refine lo_sum1 hl hW ho ha na sr sc hBa (gT S a 1) 0 f1 h1 H1 F1 (fun x hx => by rw [iv x 0 (by omega) (by omega), if_neg (by omega)]; split <;> rfl) (by omega) (fun f2 h2 H2 F2 iv2 => ?_)
  exact pxr (pm_vret (pc := 153) d_Wk_sum_153 rfl) ⟨rfl, f2, H2, F2, fun x y hy q => by have e9 := iv2 x (by omega); rw [if_pos (by omega)] at e9; rw [show y = 0 by omega]; exact e9⟩
set_option maxHeartbeats 4000000 in
set_option maxRecDepth 20000 in
theorem li_gre0 {l : Launch} {G : pm_G} {fi : Bool} {S : gS} {h0 : pm_H} {Post : pm_O × pm_H → Prop} {a o9 : Nat} (hl : l.stackTraces = false) (hW : gW S) (ho : o9 < 20) (ha : a < 20) (na : a ≠ o9) (sr : gT S o9 1 = 1) (sc : gT S o9 2 = gT S a 2) : ∀ (d i j : Nat) (f : Nat → UInt64) (h : pm_H), gH (gsC S o9 f) h → gFr h0 h → g_m0 S a f (i) (j) → i < gT S a 1 → j + d = gT S a 2 → (∀ f1 h1, gH (gsC S o9 f1) h1 → gFr h0 h1 → g_m0 S a f1 ((i + 1)) (0) → pm_Px l G fi fi 0 0 M_Wk_greatest 2 [(3, .int (nI (i + 1))), (0, .int (0)), (1, .ref (8 + 3 * a)), (2, .ref (8 + 3 * o9))] [] h1 Post) → pm_Px l G fi fi 0 0 M_Wk_greatest 13 [(4, .int (nI j)), (3, .int (nI i)), (0, .int (0)), (1, .ref (8 + 3 * a)), (2, .ref (8 + 3 * o9))] [] h Post := by
  intro d
  induction d with
  | zero =>
    intro i j f h H F iv hi hd9 K
    have bo := hW.2.2.2.2.1 o9 ho
    have ba := hW.2.2.2.2.1 a ha
    have t_a : h[8 + 3 * a]? = some (pm_Ob 2 [.ref (9 + 3 * a), .int (nI (gT S a 0)), .int (nI (gT S a 1)), .int (nI (gT S a 2))]) := (H.2.2.2.2.2.2.1 a ha).2.1
    have t_o9 : h[8 + 3 * o9]? = some (pm_Ob 2 [.ref (9 + 3 * o9), .int (nI (gT S o9 0)), .int (nI (gT S o9 1)), .int (nI (gT S o9 2))]) := (H.2.2.2.2.2.2.1 o9 ho).2.1
    have ej : j = gT S a 2 := by omega
    refine px (fun _ => pm_iload (pc := 13) d_Wk_greatest_13 rfl) ?_
    refine px (fun _ => pm_aload_n (pc := 15) d_Wk_greatest_15 rfl) ?_
    refine px (fun _ => pm_getf fl_Wk_58 (pc := 16) d_Wk_greatest_16 t_a rfl) ?_
    refine pxb (fun _ => pm_icmp_ge (pc := 19) (tgt := 118) d_Wk_greatest_19 (by decide)) (fun c_1 => ?_) (fun c_1 => absurd (by rw [ej]; exact (nI_leI (a := gT S a 2) (b := gT S a 2) (by omega) (by omega)).mpr (Nat.le_refl _)) c_1)
    refine px (fun _ => pm_iinc (x := nI i) (v := nI (i + 1)) (lv' := [(3, .int (nI (i + 1))), (4, .int (nI j)), (0, .int (0)), (1, .ref (8 + 3 * a)), (2, .ref (8 + 3 * o9))]) (pc := 118) d_Wk_greatest_118 rfl (nI_1 _) (by decide) rfl) ?_
    refine px (fun _ => pm_goto (tgt := 2) (pc := 121) d_Wk_greatest_121 (by decide)) ?_
    refine pxd [0, 2, 3, 4] rfl ?_
    exact K f h H F (by rw [ej] at iv; exact iv.row)
  | succ d ih =>
    intro i j f h H F iv hi hd9 K
    have bo := hW.2.2.2.2.1 o9 ho
    have ba := hW.2.2.2.2.1 a ha
    have t_a : h[8 + 3 * a]? = some (pm_Ob 2 [.ref (9 + 3 * a), .int (nI (gT S a 0)), .int (nI (gT S a 1)), .int (nI (gT S a 2))]) := (H.2.2.2.2.2.2.1 a ha).2.1
    have t_o9 : h[8 + 3 * o9]? = some (pm_Ob 2 [.ref (9 + 3 * o9), .int (nI (gT S o9 0)), .int (nI (gT S o9 1)), .int (nI (gT S o9 2))]) := (H.2.2.2.2.2.2.1 o9 ho).2.1
    have hj : j < gT S a 2 := by omega
    have pv : ¬ i = 0 → f (0 * 4 + j) = g_mx (g_c0 S a j) (i - 1) := by
      intro q9
      refine iv j hj (i - 1) ?_
      rw [if_neg (by omega)]; omega
    refine px (fun _ => pm_iload (pc := 13) d_Wk_greatest_13 rfl) ?_
    refine px (fun _ => pm_aload_n (pc := 15) d_Wk_greatest_15 rfl) ?_
    refine px (fun _ => pm_getf fl_Wk_58 (pc := 16) d_Wk_greatest_16 t_a rfl) ?_
    refine pxb (fun _ => pm_icmp_ge (pc := 19) (tgt := 118) d_Wk_greatest_19 (by decide)) (fun c_1 => absurd c_1 (fun q => absurd ((nI_leI (a := gT S a 2) (b := j) (by omega) (by omega)).mp q) (by omega))) (fun c_1 => ?_)
    refine px (fun _ => pm_iload_n (pc := 22) d_Wk_greatest_22 rfl) ?_
    refine pxn (fun _ => pm_if_ne (pc := 23) (tgt := 30) d_Wk_greatest_23 (by decide)) (fun c_2 => absurd (by decide) c_2) (fun c_2 => ?_)
    refine px (fun _ => pm_iconst (v := 0) (pc := 26) d_Wk_greatest_26 rfl) ?_
    refine px (fun _ => pm_goto (tgt := 31) (pc := 27) d_Wk_greatest_27 (by decide)) ?_
    refine px (fun _ => pm_istore (lv' := [(5, .int (0)), (4, .int (nI j)), (3, .int (nI i)), (0, .int (0)), (1, .ref (8 + 3 * a)), (2, .ref (8 + 3 * o9))]) (pc := 31) d_Wk_greatest_31 (by decide) rfl) ?_
    refine px (fun _ => pm_iload_n (pc := 33) d_Wk_greatest_33 rfl) ?_
    refine pxn (fun _ => pm_if_ne (pc := 34) (tgt := 42) d_Wk_greatest_34 (by decide)) (fun c_3 => absurd (by decide) c_3) (fun c_3 => ?_)
    refine px (fun _ => pm_iload (pc := 37) d_Wk_greatest_37 rfl) ?_
    refine px (fun _ => pm_goto (tgt := 43) (pc := 39) d_Wk_greatest_39 (by decide)) ?_
    refine px (fun _ => pm_istore (lv' := [(6, .int (nI j)), (5, .int (0)), (4, .int (nI j)), (3, .int (nI i)), (0, .int (0)), (1, .ref (8 + 3 * a)), (2, .ref (8 + 3 * o9))]) (pc := 43) d_Wk_greatest_43 (by decide) rfl) ?_
    refine px (fun _ => pm_iload_n (pc := 45) d_Wk_greatest_45 rfl) ?_
    refine pxn (fun _ => pm_if_ne (pc := 46) (tgt := 61) d_Wk_greatest_46 (by decide)) (fun c_4 => absurd (by decide) c_4) (fun c_4 => ?_)
    refine px (fun _ => pm_iload_n (pc := 49) d_Wk_greatest_49 rfl) ?_
    refine pxn (fun _ => pm_if_ne (pc := 50) (tgt := 57) d_Wk_greatest_50 (by decide)) (fun c_5 => ?_) (fun c_5 => ?_)
    · have n_c_5 : ¬ (i = 0) := fun q => c_5 ((nI_eq (a := i) (b := 0) (by omega) (by omega)).mpr q)
      refine px (fun _ => pm_iconst (v := 0) (pc := 57) d_Wk_greatest_57 rfl) ?_
      refine px (fun _ => pm_goto (tgt := 71) (pc := 58) d_Wk_greatest_58 (by decide)) ?_
      refine px (fun _ => pm_istore (lv' := [(7, .int (0)), (6, .int (nI j)), (5, .int (0)), (4, .int (nI j)), (3, .int (nI i)), (0, .int (0)), (1, .ref (8 + 3 * a)), (2, .ref (8 + 3 * o9))]) (pc := 71) d_Wk_greatest_71 (by decide) rfl) ?_
      refine px (fun _ => pm_iload (pc := 73) d_Wk_greatest_73 rfl) ?_
      refine pxn (fun _ => pm_if_ne (pc := 75) (tgt := 97) d_Wk_greatest_75 (by decide)) (fun c_6 => absurd (by decide) c_6) (fun c_6 => ?_)
      refine px (fun _ => pm_aload_n (pc := 78) d_Wk_greatest_78 rfl) ?_
      refine px (fun _ => pm_iload_n (pc := 79) d_Wk_greatest_79 rfl) ?_
      refine px (fun _ => pm_iload (pc := 80) d_Wk_greatest_80 rfl) ?_
      refine px (fun _ => k_Wk_greatest_82 (kc1 := 0) (ks1 := 0) (kc := 0) (ks := 0) (av := [.int (nI i), .int (nI j)]) (st := []) t_a (c_atf (i := i) (j := j) hl H ha na (by omega) (by omega)) rfl rfl (Nat.le_of_ble_eq_true rfl)) ?_
      refine px (fun _ => pm_aload_n (pc := 85) d_Wk_greatest_85 rfl) ?_
      refine px (fun _ => pm_iload (pc := 86) d_Wk_greatest_86 rfl) ?_
      refine px (fun _ => pm_iload (pc := 88) d_Wk_greatest_88 rfl) ?_
      refine px (fun _ => k_Wk_greatest_90 (kc1 := 0) (ks1 := 0) (kc := 0) (ks := 0) (av := [.int (0), .int (nI j)]) (st := [.double (gC S a (i * 4 + j))]) t_o9 (c_ato (i := 0) (j := j) hl H ho (by omega) (by omega)) rfl rfl (Nat.le_of_ble_eq_true rfl)) ?_
      refine px (fun _ => pm_dcmp (pc := 93) d_Wk_greatest_93) ?_
      refine pxb (fun _ => pm_if_le (pc := 94) (tgt := 112) d_Wk_greatest_94 (by decide)) (fun c_7 => ?_) (fun c_7 => ?_)
      · refine px (fun _ => pm_iinc (x := nI j) (v := nI (j + 1)) (lv' := [(4, .int (nI (j + 1))), (7, .int (0)), (6, .int (nI j)), (5, .int (0)), (3, .int (nI i)), (0, .int (0)), (1, .ref (8 + 3 * a)), (2, .ref (8 + 3 * o9))]) (pc := 112) d_Wk_greatest_112 rfl (nI_1 _) (by decide) rfl) ?_
        refine px (fun _ => pm_goto (tgt := 13) (pc := 115) d_Wk_greatest_115 (by decide)) ?_
        refine pxd [0, 4, 5, 6, 7] rfl ?_
        exact ih i (j + 1) _ _ H (F.tr (gFr.rf _)) (iv.keep (by rw [g_mx_s (by assumption), if_neg (fun q9 => q9 (by rw [← pv (by assumption)]; assumption))]; exact pv (by assumption))) hi (by omega) K
      · refine px (fun _ => pm_aload_n (pc := 97) d_Wk_greatest_97 rfl) ?_
        refine px (fun _ => pm_iload (pc := 98) d_Wk_greatest_98 rfl) ?_
        refine px (fun _ => pm_iload (pc := 100) d_Wk_greatest_100 rfl) ?_
        refine px (fun _ => pm_aload_n (pc := 102) d_Wk_greatest_102 rfl) ?_
        refine px (fun _ => pm_iload_n (pc := 103) d_Wk_greatest_103 rfl) ?_
        refine px (fun _ => pm_iload (pc := 104) d_Wk_greatest_104 rfl) ?_
        refine px (fun _ => k_Wk_greatest_106 (kc1 := 0) (ks1 := 0) (kc := 0) (ks := 0) (av := [.int (nI i), .int (nI j)]) (st := [.int (nI j), .int (0), .ref (8 + 3 * o9)]) t_a (c_atf (i := i) (j := j) hl H ha na (by omega) (by omega)) rfl rfl (Nat.le_of_ble_eq_true rfl)) ?_
        obtain ⟨⟨o8, h8⟩, ⟨e8, H8, F8⟩, en8⟩ := c_putf (l := l) (G := G) (fi := fi) (v := gC S a (i * 4 + j)) hl H hW ho (i := 0) (j := j) (by omega) (by omega)
        dsimp only at e8 H8 F8
        subst e8
        refine px (fun _ => k_Wk_greatest_109 (kc1 := 0) (ks1 := 0) (kc := 0) (ks := 0) (av := [.int (0), .int (nI j), .double (gC S a (i * 4 + j))]) (st := []) t_o9 (en8) rfl rfl (Nat.le_of_ble_eq_true rfl)) ?_
        refine px (fun _ => pm_iinc (x := nI j) (v := nI (j + 1)) (lv' := [(4, .int (nI (j + 1))), (7, .int (0)), (6, .int (nI j)), (5, .int (0)), (3, .int (nI i)), (0, .int (0)), (1, .ref (8 + 3 * a)), (2, .ref (8 + 3 * o9))]) (pc := 112) d_Wk_greatest_112 rfl (nI_1 _) (by decide) rfl) ?_
        refine px (fun _ => pm_goto (tgt := 13) (pc := 115) d_Wk_greatest_115 (by decide)) ?_
        refine pxd [0, 4, 5, 6, 7] rfl ?_
        exact ih i (j + 1) _ _ H8 (F.tr (F8)) (iv.put hj (by rw [g_mx_s (by assumption), if_pos (by rw [← pv (by assumption)]; assumption)])) hi (by omega) K
    · have n_c_5 : i = 0 := (nI_eq (a := i) (b := 0) (by omega) (by omega)).mp c_5
      refine px (fun _ => pm_iconst (v := 1) (pc := 53) d_Wk_greatest_53 rfl) ?_
      refine px (fun _ => pm_goto (tgt := 71) (pc := 54) d_Wk_greatest_54 (by decide)) ?_
      refine px (fun _ => pm_istore (lv' := [(7, .int (1)), (6, .int (nI j)), (5, .int (0)), (4, .int (nI j)), (3, .int (nI i)), (0, .int (0)), (1, .ref (8 + 3 * a)), (2, .ref (8 + 3 * o9))]) (pc := 71) d_Wk_greatest_71 (by decide) rfl) ?_
      refine px (fun _ => pm_iload (pc := 73) d_Wk_greatest_73 rfl) ?_
      refine pxn (fun _ => pm_if_ne (pc := 75) (tgt := 97) d_Wk_greatest_75 (by decide)) (fun c_9 => ?_) (fun c_9 => absurd c_9 (by decide))
      refine px (fun _ => pm_aload_n (pc := 97) d_Wk_greatest_97 rfl) ?_
      refine px (fun _ => pm_iload (pc := 98) d_Wk_greatest_98 rfl) ?_
      refine px (fun _ => pm_iload (pc := 100) d_Wk_greatest_100 rfl) ?_
      refine px (fun _ => pm_aload_n (pc := 102) d_Wk_greatest_102 rfl) ?_
      refine px (fun _ => pm_iload_n (pc := 103) d_Wk_greatest_103 rfl) ?_
      refine px (fun _ => pm_iload (pc := 104) d_Wk_greatest_104 rfl) ?_
      refine px (fun _ => k_Wk_greatest_106 (kc1 := 0) (ks1 := 0) (kc := 0) (ks := 0) (av := [.int (nI i), .int (nI j)]) (st := [.int (nI j), .int (0), .ref (8 + 3 * o9)]) t_a (c_atf (i := i) (j := j) hl H ha na (by omega) (by omega)) rfl rfl (Nat.le_of_ble_eq_true rfl)) ?_
      obtain ⟨⟨o10, h10⟩, ⟨e10, H10, F10⟩, en10⟩ := c_putf (l := l) (G := G) (fi := fi) (v := gC S a (i * 4 + j)) hl H hW ho (i := 0) (j := j) (by omega) (by omega)
      dsimp only at e10 H10 F10
      subst e10
      refine px (fun _ => k_Wk_greatest_109 (kc1 := 0) (ks1 := 0) (kc := 0) (ks := 0) (av := [.int (0), .int (nI j), .double (gC S a (i * 4 + j))]) (st := []) t_o9 (en10) rfl rfl (Nat.le_of_ble_eq_true rfl)) ?_
      refine px (fun _ => pm_iinc (x := nI j) (v := nI (j + 1)) (lv' := [(4, .int (nI (j + 1))), (7, .int (1)), (6, .int (nI j)), (5, .int (0)), (3, .int (nI i)), (0, .int (0)), (1, .ref (8 + 3 * a)), (2, .ref (8 + 3 * o9))]) (pc := 112) d_Wk_greatest_112 rfl (nI_1 _) (by decide) rfl) ?_
      refine px (fun _ => pm_goto (tgt := 13) (pc := 115) d_Wk_greatest_115 (by decide)) ?_
      refine pxd [0, 4, 5, 6, 7] rfl ?_
      exact ih i (j + 1) _ _ H10 (F.tr (F10)) (iv.put hj (g_mx_0 (X := (g_c0 S a j)) (by assumption))) hi (by omega) K
set_option maxHeartbeats 4000000 in
set_option maxRecDepth 20000 in
theorem lo_gre0 {l : Launch} {G : pm_G} {fi : Bool} {S : gS} {h0 : pm_H} {Post : pm_O × pm_H → Prop} {a o9 : Nat} (hl : l.stackTraces = false) (hW : gW S) (ho : o9 < 20) (ha : a < 20) (na : a ≠ o9) (sr : gT S o9 1 = 1) (sc : gT S o9 2 = gT S a 2) : ∀ (d i : Nat) (f : Nat → UInt64) (h : pm_H), gH (gsC S o9 f) h → gFr h0 h → g_m0 S a f (i) (0) → i + d = gT S a 1 → (∀ f1 h1, gH (gsC S o9 f1) h1 → gFr h0 h1 → g_m0 S a f1 (gT S a 1) (0) → pm_Px l G fi fi 0 0 M_Wk_greatest 124 [(0, .int (0)), (1, .ref (8 + 3 * a)), (2, .ref (8 + 3 * o9))] [] h1 Post) → pm_Px l G fi fi 0 0 M_Wk_greatest 2 [(3, .int (nI i)), (0, .int (0)), (1, .ref (8 + 3 * a)), (2, .ref (8 + 3 * o9))] [] h Post := by
  intro d
  induction d with
  | zero =>
    intro i f h H F iv hd9 K
    have bo := hW.2.2.2.2.1 o9 ho
    have ba := hW.2.2.2.2.1 a ha
    have t_a : h[8 + 3 * a]? = some (pm_Ob 2 [.ref (9 + 3 * a), .int (nI (gT S a 0)), .int (nI (gT S a 1)), .int (nI (gT S a 2))]) := (H.2.2.2.2.2.2.1 a ha).2.1
    have t_o9 : h[8 + 3 * o9]? = some (pm_Ob 2 [.ref (9 + 3 * o9), .int (nI (gT S o9 0)), .int (nI (gT S o9 1)), .int (nI (gT S o9 2))]) := (H.2.2.2.2.2.2.1 o9 ho).2.1
    have ej : i = gT S a 1 := by omega
    refine px (fun _ => pm_iload_n (pc := 2) d_Wk_greatest_2 rfl) ?_
    refine px (fun _ => pm_aload_n (pc := 3) d_Wk_greatest_3 rfl) ?_
    refine px (fun _ => pm_getf fl_Wk_53 (pc := 4) d_Wk_greatest_4 t_a rfl) ?_
    refine pxb (fun _ => pm_icmp_ge (pc := 7) (tgt := 124) d_Wk_greatest_7 (by decide)) (fun c_1 => ?_) (fun c_1 => absurd (by rw [ej]; exact (nI_leI (a := gT S a 1) (b := gT S a 1) (by omega) (by omega)).mpr (Nat.le_refl _)) c_1)
    refine pxd [1, 2, 3] rfl ?_
    exact K f h H F (by rw [ej] at iv; exact iv)
  | succ d ih =>
    intro i f h H F iv hd9 K
    have bo := hW.2.2.2.2.1 o9 ho
    have ba := hW.2.2.2.2.1 a ha
    have t_a : h[8 + 3 * a]? = some (pm_Ob 2 [.ref (9 + 3 * a), .int (nI (gT S a 0)), .int (nI (gT S a 1)), .int (nI (gT S a 2))]) := (H.2.2.2.2.2.2.1 a ha).2.1
    have t_o9 : h[8 + 3 * o9]? = some (pm_Ob 2 [.ref (9 + 3 * o9), .int (nI (gT S o9 0)), .int (nI (gT S o9 1)), .int (nI (gT S o9 2))]) := (H.2.2.2.2.2.2.1 o9 ho).2.1
    refine px (fun _ => pm_iload_n (pc := 2) d_Wk_greatest_2 rfl) ?_
    refine px (fun _ => pm_aload_n (pc := 3) d_Wk_greatest_3 rfl) ?_
    refine px (fun _ => pm_getf fl_Wk_53 (pc := 4) d_Wk_greatest_4 t_a rfl) ?_
    refine pxb (fun _ => pm_icmp_ge (pc := 7) (tgt := 124) d_Wk_greatest_7 (by decide)) (fun c_1 => absurd c_1 (fun q => absurd ((nI_leI (a := gT S a 1) (b := i) (by omega) (by omega)).mp q) (by omega))) (fun c_1 => ?_)
    refine px (fun _ => pm_iconst (v := 0) (pc := 10) d_Wk_greatest_10 rfl) ?_
    refine px (fun _ => pm_istore (lv' := [(4, .int (0)), (3, .int (nI i)), (0, .int (0)), (1, .ref (8 + 3 * a)), (2, .ref (8 + 3 * o9))]) (pc := 11) d_Wk_greatest_11 (by decide) rfl) ?_
    refine pxd [0, 1, 2, 3, 4] rfl ?_
    exact li_gre0 hl hW ho ha na sr sc (gT S a 2) i 0 f h H F iv (by omega) (by omega) (fun f1 h1 a1 a2 a3 => ih (i + 1) f1 h1 a1 a2 a3 (by omega) K)
set_option maxHeartbeats 4000000 in
set_option maxRecDepth 20000 in
theorem w_gre0 {l : Launch} {G : pm_G} {fi : Bool} {h : pm_H} {S : gS} {a o9 : Nat} (hl : l.stackTraces = false) (H : gH S h) (hW : gW S) (ho : o9 < 20) (ha : a < 20) (na : a ≠ o9) (sr : gT S o9 1 = 1) (sc : gT S o9 2 = gT S a 2) : pm_Cn l G fi fi 0 0 M_Wk_greatest [.int (0), .ref (8 + 3 * a), .ref (8 + 3 * o9)] h (g_Pw S o9 h (fun x y => g_mx (g_c0 S a y) (gT S a 1 - 1)) (gT S o9 1) (gT S o9 2) (.inl none)) := by
  refine pm_Cn.of hl (by decide) (Nat.le_of_ble_eq_true rfl) ?_
  have ba := hW.2.2.2.2.1 a ha
  have bo := hW.2.2.2.2.1 o9 ho
  refine px (fun _ => pm_iconst (v := 0) (pc := 0) d_Wk_greatest_0 rfl) ?_
  refine px (fun _ => pm_istore_n (lv' := [(3, .int (0)), (0, .int (0)), (1, .ref (8 + 3 * a)), (2, .ref (8 + 3 * o9))]) (pc := 1) d_Wk_greatest_1 (by decide) rfl) ?_
  refine lo_gre0 hl hW ho ha na sr sc (gT S a 1) 0 (gC S o9) h (by rw [gsC_self]; exact H) (gFr.rf h) g_m0.z (by omega) (fun f2 h2 H2 F2 iv2 => ?_)
  exact pxr (pm_vret (pc := 124) d_Wk_greatest_124 rfl) ⟨rfl, f2, H2, F2, fun x y hy q => by have e9 := iv2 y (by omega) (gT S a 1 - 1) (by rw [if_neg (by omega)]; omega); rw [show x = 0 by omega]; exact e9⟩
set_option maxHeartbeats 4000000 in
set_option maxRecDepth 20000 in
theorem li_gre1 {l : Launch} {G : pm_G} {fi : Bool} {S : gS} {h0 : pm_H} {Post : pm_O × pm_H → Prop} {a o9 : Nat} (hl : l.stackTraces = false) (hW : gW S) (ho : o9 < 20) (ha : a < 20) (na : a ≠ o9) (sr : gT S o9 1 = gT S a 1) (sc : gT S o9 2 = 1) : ∀ (d i j : Nat) (f : Nat → UInt64) (h : pm_H), gH (gsC S o9 f) h → gFr h0 h → g_m1 S a f (i) (j) → i < gT S a 1 → j + d = gT S a 2 → (∀ f1 h1, gH (gsC S o9 f1) h1 → gFr h0 h1 → g_m1 S a f1 ((i + 1)) (0) → pm_Px l G fi fi 0 0 M_Wk_greatest 2 [(3, .int (nI (i + 1))), (0, .int (1)), (1, .ref (8 + 3 * a)), (2, .ref (8 + 3 * o9))] [] h1 Post) → pm_Px l G fi fi 0 0 M_Wk_greatest 13 [(4, .int (nI j)), (3, .int (nI i)), (0, .int (1)), (1, .ref (8 + 3 * a)), (2, .ref (8 + 3 * o9))] [] h Post := by
  intro d
  induction d with
  | zero =>
    intro i j f h H F iv hi hd9 K
    have bo := hW.2.2.2.2.1 o9 ho
    have ba := hW.2.2.2.2.1 a ha
    have t_a : h[8 + 3 * a]? = some (pm_Ob 2 [.ref (9 + 3 * a), .int (nI (gT S a 0)), .int (nI (gT S a 1)), .int (nI (gT S a 2))]) := (H.2.2.2.2.2.2.1 a ha).2.1
    have t_o9 : h[8 + 3 * o9]? = some (pm_Ob 2 [.ref (9 + 3 * o9), .int (nI (gT S o9 0)), .int (nI (gT S o9 1)), .int (nI (gT S o9 2))]) := (H.2.2.2.2.2.2.1 o9 ho).2.1
    have ej : j = gT S a 2 := by omega
    refine px (fun _ => pm_iload (pc := 13) d_Wk_greatest_13 rfl) ?_
    refine px (fun _ => pm_aload_n (pc := 15) d_Wk_greatest_15 rfl) ?_
    refine px (fun _ => pm_getf fl_Wk_58 (pc := 16) d_Wk_greatest_16 t_a rfl) ?_
    refine pxb (fun _ => pm_icmp_ge (pc := 19) (tgt := 118) d_Wk_greatest_19 (by decide)) (fun c_1 => ?_) (fun c_1 => absurd (by rw [ej]; exact (nI_leI (a := gT S a 2) (b := gT S a 2) (by omega) (by omega)).mpr (Nat.le_refl _)) c_1)
    refine px (fun _ => pm_iinc (x := nI i) (v := nI (i + 1)) (lv' := [(3, .int (nI (i + 1))), (4, .int (nI j)), (0, .int (1)), (1, .ref (8 + 3 * a)), (2, .ref (8 + 3 * o9))]) (pc := 118) d_Wk_greatest_118 rfl (nI_1 _) (by decide) rfl) ?_
    refine px (fun _ => pm_goto (tgt := 2) (pc := 121) d_Wk_greatest_121 (by decide)) ?_
    refine pxd [0, 2, 3, 4] rfl ?_
    exact K f h H F (by rw [ej] at iv; exact iv.row)
  | succ d ih =>
    intro i j f h H F iv hi hd9 K
    have bo := hW.2.2.2.2.1 o9 ho
    have ba := hW.2.2.2.2.1 a ha
    have t_a : h[8 + 3 * a]? = some (pm_Ob 2 [.ref (9 + 3 * a), .int (nI (gT S a 0)), .int (nI (gT S a 1)), .int (nI (gT S a 2))]) := (H.2.2.2.2.2.2.1 a ha).2.1
    have t_o9 : h[8 + 3 * o9]? = some (pm_Ob 2 [.ref (9 + 3 * o9), .int (nI (gT S o9 0)), .int (nI (gT S o9 1)), .int (nI (gT S o9 2))]) := (H.2.2.2.2.2.2.1 o9 ho).2.1
    have hj : j < gT S a 2 := by omega
    have pv : ¬ j = 0 → f (i * 4 + 0) = g_mx (g_c1 S a i) (j - 1) := by
      intro q9
      refine iv i hi (j - 1) ?_
      rw [if_neg (by omega), if_pos rfl]; omega
    refine px (fun _ => pm_iload (pc := 13) d_Wk_greatest_13 rfl) ?_
    refine px (fun _ => pm_aload_n (pc := 15) d_Wk_greatest_15 rfl) ?_
    refine px (fun _ => pm_getf fl_Wk_58 (pc := 16) d_Wk_greatest_16 t_a rfl) ?_
    refine pxb (fun _ => pm_icmp_ge (pc := 19) (tgt := 118) d_Wk_greatest_19 (by decide)) (fun c_1 => absurd c_1 (fun q => absurd ((nI_leI (a := gT S a 2) (b := j) (by omega) (by omega)).mp q) (by omega))) (fun c_1 => ?_)
    refine px (fun _ => pm_iload_n (pc := 22) d_Wk_greatest_22 rfl) ?_
    refine pxn (fun _ => pm_if_ne (pc := 23) (tgt := 30) d_Wk_greatest_23 (by decide)) (fun c_2 => ?_) (fun c_2 => absurd c_2 (by decide))
    refine px (fun _ => pm_iload_n (pc := 30) d_Wk_greatest_30 rfl) ?_
    refine px (fun _ => pm_istore (lv' := [(5, .int (nI i)), (4, .int (nI j)), (3, .int (nI i)), (0, .int (1)), (1, .ref (8 + 3 * a)), (2, .ref (8 + 3 * o9))]) (pc := 31) d_Wk_greatest_31 (by decide) rfl) ?_
    refine px (fun _ => pm_iload_n (pc := 33) d_Wk_greatest_33 rfl) ?_
    refine pxn (fun _ => pm_if_ne (pc := 34) (tgt := 42) d_Wk_greatest_34 (by decide)) (fun c_3 => ?_) (fun c_3 => absurd c_3 (by decide))
    refine px (fun _ => pm_iconst (v := 0) (pc := 42) d_Wk_greatest_42 rfl) ?_
    refine px (fun _ => pm_istore (lv' := [(6, .int (0)), (5, .int (nI i)), (4, .int (nI j)), (3, .int (nI i)), (0, .int (1)), (1, .ref (8 + 3 * a)), (2, .ref (8 + 3 * o9))]) (pc := 43) d_Wk_greatest_43 (by decide) rfl) ?_
    refine px (fun _ => pm_iload_n (pc := 45) d_Wk_greatest_45 rfl) ?_
    refine pxn (fun _ => pm_if_ne (pc := 46) (tgt := 61) d_Wk_greatest_46 (by decide)) (fun c_4 => ?_) (fun c_4 => absurd c_4 (by decide))
    refine px (fun _ => pm_iload (pc := 61) d_Wk_greatest_61 rfl) ?_
    refine pxn (fun _ => pm_if_ne (pc := 63) (tgt := 70) d_Wk_greatest_63 (by decide)) (fun c_5 => ?_) (fun c_5 => ?_)
    · have n_c_5 : ¬ (j = 0) := fun q => c_5 ((nI_eq (a := j) (b := 0) (by omega) (by omega)).mpr q)
      refine px (fun _ => pm_iconst (v := 0) (pc := 70) d_Wk_greatest_70 rfl) ?_
      refine px (fun _ => pm_istore (lv' := [(7, .int (0)), (6, .int (0)), (5, .int (nI i)), (4, .int (nI j)), (3, .int (nI i)), (0, .int (1)), (1, .ref (8 + 3 * a)), (2, .ref (8 + 3 * o9))]) (pc := 71) d_Wk_greatest_71 (by decide) rfl) ?_
      refine px (fun _ => pm_iload (pc := 73) d_Wk_greatest_73 rfl) ?_
      refine pxn (fun _ => pm_if_ne (pc := 75) (tgt := 97) d_Wk_greatest_75 (by decide)) (fun c_6 => absurd (by decide) c_6) (fun c_6 => ?_)
      refine px (fun _ => pm_aload_n (pc := 78) d_Wk_greatest_78 rfl) ?_
      refine px (fun _ => pm_iload_n (pc := 79) d_Wk_greatest_79 rfl) ?_
      refine px (fun _ => pm_iload (pc := 80) d_Wk_greatest_80 rfl) ?_
      refine px (fun _ => k_Wk_greatest_82 (kc1 := 0) (ks1 := 0) (kc := 0) (ks := 0) (av := [.int (nI i), .int (nI j)]) (st := []) t_a (c_atf (i := i) (j := j) hl H ha na (by omega) (by omega)) rfl rfl (Nat.le_of_ble_eq_true rfl)) ?_
      refine px (fun _ => pm_aload_n (pc := 85) d_Wk_greatest_85 rfl) ?_
      refine px (fun _ => pm_iload (pc := 86) d_Wk_greatest_86 rfl) ?_
      refine px (fun _ => pm_iload (pc := 88) d_Wk_greatest_88 rfl) ?_
      refine px (fun _ => k_Wk_greatest_90 (kc1 := 0) (ks1 := 0) (kc := 0) (ks := 0) (av := [.int (nI i), .int (0)]) (st := [.double (gC S a (i * 4 + j))]) t_o9 (c_ato (i := i) (j := 0) hl H ho (by omega) (by omega)) rfl rfl (Nat.le_of_ble_eq_true rfl)) ?_
      refine px (fun _ => pm_dcmp (pc := 93) d_Wk_greatest_93) ?_
      refine pxb (fun _ => pm_if_le (pc := 94) (tgt := 112) d_Wk_greatest_94 (by decide)) (fun c_7 => ?_) (fun c_7 => ?_)
      · refine px (fun _ => pm_iinc (x := nI j) (v := nI (j + 1)) (lv' := [(4, .int (nI (j + 1))), (7, .int (0)), (6, .int (0)), (5, .int (nI i)), (3, .int (nI i)), (0, .int (1)), (1, .ref (8 + 3 * a)), (2, .ref (8 + 3 * o9))]) (pc := 112) d_Wk_greatest_112 rfl (nI_1 _) (by decide) rfl) ?_
        refine px (fun _ => pm_goto (tgt := 13) (pc := 115) d_Wk_greatest_115 (by decide)) ?_
        refine pxd [0, 4, 5, 6, 7] rfl ?_
        exact ih i (j + 1) _ _ H (F.tr (gFr.rf _)) (iv.keep (by rw [g_mx_s (by assumption), if_neg (fun q9 => q9 (by rw [← pv (by assumption)]; assumption))]; exact pv (by assumption))) hi (by omega) K
      · refine px (fun _ => pm_aload_n (pc := 97) d_Wk_greatest_97 rfl) ?_
        refine px (fun _ => pm_iload (pc := 98) d_Wk_greatest_98 rfl) ?_
        refine px (fun _ => pm_iload (pc := 100) d_Wk_greatest_100 rfl) ?_
        refine px (fun _ => pm_aload_n (pc := 102) d_Wk_greatest_102 rfl) ?_
        refine px (fun _ => pm_iload_n (pc := 103) d_Wk_greatest_103 rfl) ?_
        refine px (fun _ => pm_iload (pc := 104) d_Wk_greatest_104 rfl) ?_
        refine px (fun _ => k_Wk_greatest_106 (kc1 := 0) (ks1 := 0) (kc := 0) (ks := 0) (av := [.int (nI i), .int (nI j)]) (st := [.int (0), .int (nI i), .ref (8 + 3 * o9)]) t_a (c_atf (i := i) (j := j) hl H ha na (by omega) (by omega)) rfl rfl (Nat.le_of_ble_eq_true rfl)) ?_
        obtain ⟨⟨o8, h8⟩, ⟨e8, H8, F8⟩, en8⟩ := c_putf (l := l) (G := G) (fi := fi) (v := gC S a (i * 4 + j)) hl H hW ho (i := i) (j := 0) (by omega) (by omega)
        dsimp only at e8 H8 F8
        subst e8
        refine px (fun _ => k_Wk_greatest_109 (kc1 := 0) (ks1 := 0) (kc := 0) (ks := 0) (av := [.int (nI i), .int (0), .double (gC S a (i * 4 + j))]) (st := []) t_o9 (en8) rfl rfl (Nat.le_of_ble_eq_true rfl)) ?_
        refine px (fun _ => pm_iinc (x := nI j) (v := nI (j + 1)) (lv' := [(4, .int (nI (j + 1))), (7, .int (0)), (6, .int (0)), (5, .int (nI i)), (3, .int (nI i)), (0, .int (1)), (1, .ref (8 + 3 * a)), (2, .ref (8 + 3 * o9))]) (pc := 112) d_Wk_greatest_112 rfl (nI_1 _) (by decide) rfl) ?_
        refine px (fun _ => pm_goto (tgt := 13) (pc := 115) d_Wk_greatest_115 (by decide)) ?_
        refine pxd [0, 4, 5, 6, 7] rfl ?_
        exact ih i (j + 1) _ _ H8 (F.tr (F8)) (iv.put (by rw [g_mx_s (by assumption), if_pos (by rw [← pv (by assumption)]; assumption)])) hi (by omega) K
    · have n_c_5 : j = 0 := (nI_eq (a := j) (b := 0) (by omega) (by omega)).mp c_5
      refine px (fun _ => pm_iconst (v := 1) (pc := 66) d_Wk_greatest_66 rfl) ?_
      refine px (fun _ => pm_goto (tgt := 71) (pc := 67) d_Wk_greatest_67 (by decide)) ?_
      refine px (fun _ => pm_istore (lv' := [(7, .int (1)), (6, .int (0)), (5, .int (nI i)), (4, .int (nI j)), (3, .int (nI i)), (0, .int (1)), (1, .ref (8 + 3 * a)), (2, .ref (8 + 3 * o9))]) (pc := 71) d_Wk_greatest_71 (by decide) rfl) ?_
      refine px (fun _ => pm_iload (pc := 73) d_Wk_greatest_73 rfl) ?_
      refine pxn (fun _ => pm_if_ne (pc := 75) (tgt := 97) d_Wk_greatest_75 (by decide)) (fun c_9 => ?_) (fun c_9 => absurd c_9 (by decide))
      refine px (fun _ => pm_aload_n (pc := 97) d_Wk_greatest_97 rfl) ?_
      refine px (fun _ => pm_iload (pc := 98) d_Wk_greatest_98 rfl) ?_
      refine px (fun _ => pm_iload (pc := 100) d_Wk_greatest_100 rfl) ?_
      refine px (fun _ => pm_aload_n (pc := 102) d_Wk_greatest_102 rfl) ?_
      refine px (fun _ => pm_iload_n (pc := 103) d_Wk_greatest_103 rfl) ?_
      refine px (fun _ => pm_iload (pc := 104) d_Wk_greatest_104 rfl) ?_
      refine px (fun _ => k_Wk_greatest_106 (kc1 := 0) (ks1 := 0) (kc := 0) (ks := 0) (av := [.int (nI i), .int (nI j)]) (st := [.int (0), .int (nI i), .ref (8 + 3 * o9)]) t_a (c_atf (i := i) (j := j) hl H ha na (by omega) (by omega)) rfl rfl (Nat.le_of_ble_eq_true rfl)) ?_
      obtain ⟨⟨o10, h10⟩, ⟨e10, H10, F10⟩, en10⟩ := c_putf (l := l) (G := G) (fi := fi) (v := gC S a (i * 4 + j)) hl H hW ho (i := i) (j := 0) (by omega) (by omega)
      dsimp only at e10 H10 F10
      subst e10
      refine px (fun _ => k_Wk_greatest_109 (kc1 := 0) (ks1 := 0) (kc := 0) (ks := 0) (av := [.int (nI i), .int (0), .double (gC S a (i * 4 + j))]) (st := []) t_o9 (en10) rfl rfl (Nat.le_of_ble_eq_true rfl)) ?_
      refine px (fun _ => pm_iinc (x := nI j) (v := nI (j + 1)) (lv' := [(4, .int (nI (j + 1))), (7, .int (1)), (6, .int (0)), (5, .int (nI i)), (3, .int (nI i)), (0, .int (1)), (1, .ref (8 + 3 * a)), (2, .ref (8 + 3 * o9))]) (pc := 112) d_Wk_greatest_112 rfl (nI_1 _) (by decide) rfl) ?_
      refine px (fun _ => pm_goto (tgt := 13) (pc := 115) d_Wk_greatest_115 (by decide)) ?_
      refine pxd [0, 4, 5, 6, 7] rfl ?_
      exact ih i (j + 1) _ _ H10 (F.tr (F10)) (iv.put (g_mx_0 (X := (g_c1 S a i)) (by assumption))) hi (by omega) K
set_option maxHeartbeats 4000000 in
set_option maxRecDepth 20000 in
theorem lo_gre1 {l : Launch} {G : pm_G} {fi : Bool} {S : gS} {h0 : pm_H} {Post : pm_O × pm_H → Prop} {a o9 : Nat} (hl : l.stackTraces = false) (hW : gW S) (ho : o9 < 20) (ha : a < 20) (na : a ≠ o9) (sr : gT S o9 1 = gT S a 1) (sc : gT S o9 2 = 1) : ∀ (d i : Nat) (f : Nat → UInt64) (h : pm_H), gH (gsC S o9 f) h → gFr h0 h → g_m1 S a f (i) (0) → i + d = gT S a 1 → (∀ f1 h1, gH (gsC S o9 f1) h1 → gFr h0 h1 → g_m1 S a f1 (gT S a 1) (0) → pm_Px l G fi fi 0 0 M_Wk_greatest 124 [(0, .int (1)), (1, .ref (8 + 3 * a)), (2, .ref (8 + 3 * o9))] [] h1 Post) → pm_Px l G fi fi 0 0 M_Wk_greatest 2 [(3, .int (nI i)), (0, .int (1)), (1, .ref (8 + 3 * a)), (2, .ref (8 + 3 * o9))] [] h Post := by
  intro d
  induction d with
  | zero =>
    intro i f h H F iv hd9 K
    have bo := hW.2.2.2.2.1 o9 ho
    have ba := hW.2.2.2.2.1 a ha
    have t_a : h[8 + 3 * a]? = some (pm_Ob 2 [.ref (9 + 3 * a), .int (nI (gT S a 0)), .int (nI (gT S a 1)), .int (nI (gT S a 2))]) := (H.2.2.2.2.2.2.1 a ha).2.1
    have t_o9 : h[8 + 3 * o9]? = some (pm_Ob 2 [.ref (9 + 3 * o9), .int (nI (gT S o9 0)), .int (nI (gT S o9 1)), .int (nI (gT S o9 2))]) := (H.2.2.2.2.2.2.1 o9 ho).2.1
    have ej : i = gT S a 1 := by omega
    refine px (fun _ => pm_iload_n (pc := 2) d_Wk_greatest_2 rfl) ?_
    refine px (fun _ => pm_aload_n (pc := 3) d_Wk_greatest_3 rfl) ?_
    refine px (fun _ => pm_getf fl_Wk_53 (pc := 4) d_Wk_greatest_4 t_a rfl) ?_
    refine pxb (fun _ => pm_icmp_ge (pc := 7) (tgt := 124) d_Wk_greatest_7 (by decide)) (fun c_1 => ?_) (fun c_1 => absurd (by rw [ej]; exact (nI_leI (a := gT S a 1) (b := gT S a 1) (by omega) (by omega)).mpr (Nat.le_refl _)) c_1)
    refine pxd [1, 2, 3] rfl ?_
    exact K f h H F (by rw [ej] at iv; exact iv)
  | succ d ih =>
    intro i f h H F iv hd9 K
    have bo := hW.2.2.2.2.1 o9 ho
    have ba := hW.2.2.2.2.1 a ha
    have t_a : h[8 + 3 * a]? = some (pm_Ob 2 [.ref (9 + 3 * a), .int (nI (gT S a 0)), .int (nI (gT S a 1)), .int (nI (gT S a 2))]) := (H.2.2.2.2.2.2.1 a ha).2.1
    have t_o9 : h[8 + 3 * o9]? = some (pm_Ob 2 [.ref (9 + 3 * o9), .int (nI (gT S o9 0)), .int (nI (gT S o9 1)), .int (nI (gT S o9 2))]) := (H.2.2.2.2.2.2.1 o9 ho).2.1
    refine px (fun _ => pm_iload_n (pc := 2) d_Wk_greatest_2 rfl) ?_
    refine px (fun _ => pm_aload_n (pc := 3) d_Wk_greatest_3 rfl) ?_
    refine px (fun _ => pm_getf fl_Wk_53 (pc := 4) d_Wk_greatest_4 t_a rfl) ?_
    refine pxb (fun _ => pm_icmp_ge (pc := 7) (tgt := 124) d_Wk_greatest_7 (by decide)) (fun c_1 => absurd c_1 (fun q => absurd ((nI_leI (a := gT S a 1) (b := i) (by omega) (by omega)).mp q) (by omega))) (fun c_1 => ?_)
    refine px (fun _ => pm_iconst (v := 0) (pc := 10) d_Wk_greatest_10 rfl) ?_
    refine px (fun _ => pm_istore (lv' := [(4, .int (0)), (3, .int (nI i)), (0, .int (1)), (1, .ref (8 + 3 * a)), (2, .ref (8 + 3 * o9))]) (pc := 11) d_Wk_greatest_11 (by decide) rfl) ?_
    refine pxd [0, 1, 2, 3, 4] rfl ?_
    exact li_gre1 hl hW ho ha na sr sc (gT S a 2) i 0 f h H F iv (by omega) (by omega) (fun f1 h1 a1 a2 a3 => ih (i + 1) f1 h1 a1 a2 a3 (by omega) K)
set_option maxHeartbeats 4000000 in
set_option maxRecDepth 20000 in
theorem w_gre1 {l : Launch} {G : pm_G} {fi : Bool} {h : pm_H} {S : gS} {a o9 : Nat} (hl : l.stackTraces = false) (H : gH S h) (hW : gW S) (ho : o9 < 20) (ha : a < 20) (na : a ≠ o9) (sr : gT S o9 1 = gT S a 1) (sc : gT S o9 2 = 1) : pm_Cn l G fi fi 0 0 M_Wk_greatest [.int (1), .ref (8 + 3 * a), .ref (8 + 3 * o9)] h (g_Pw S o9 h (fun x y => g_mx (g_c1 S a x) (gT S a 2 - 1)) (gT S o9 1) (gT S o9 2) (.inl none)) := by
  refine pm_Cn.of hl (by decide) (Nat.le_of_ble_eq_true rfl) ?_
  have ba := hW.2.2.2.2.1 a ha
  have bo := hW.2.2.2.2.1 o9 ho
  refine px (fun _ => pm_iconst (v := 0) (pc := 0) d_Wk_greatest_0 rfl) ?_
  refine px (fun _ => pm_istore_n (lv' := [(3, .int (0)), (0, .int (1)), (1, .ref (8 + 3 * a)), (2, .ref (8 + 3 * o9))]) (pc := 1) d_Wk_greatest_1 (by decide) rfl) ?_
  refine lo_gre1 hl hW ho ha na sr sc (gT S a 1) 0 (gC S o9) h (by rw [gsC_self]; exact H) (gFr.rf h) g_m1.z (by omega) (fun f2 h2 H2 F2 iv2 => ?_)
  exact pxr (pm_vret (pc := 124) d_Wk_greatest_124 rfl) ⟨rfl, f2, H2, F2, fun x y hy q => by have e9 := iv2 x (by omega) (gT S a 2 - 1) (by rw [if_pos (by omega)]; omega); rw [show y = 0 by omega]; exact e9⟩
