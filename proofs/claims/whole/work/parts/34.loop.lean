/-! ===== the class: loops over nodes; what changes a state ===== -/
section PMN
variable {l : Launch} {G : pm_G} {fi fo : Bool} {kc ks : Nat} {M : pm_M} {pc : Nat} {lv : List (Nat × Value)} {st : List Value} {h : pm_H} {r : pm_O × pm_H} {a b : Nat}
theorem pm_iaddN (d : decode M.2.1 pc = .ok (.iadd, 1)) (k : pm_Ev l G fi fo kc ks M (pc + 1) lv (.int (nI (a + b)) :: st) h r) : pm_Ev l G fi fo kc ks M pc lv (.int (nI b) :: .int (nI a) :: st) h r := pm_iadd d (by rw [nI_add]; exact k)
theorem pm_imulN (d : decode M.2.1 pc = .ok (.imul, 1)) (k : pm_Ev l G fi fo kc ks M (pc + 1) lv (.int (nI (a * b)) :: st) h r) : pm_Ev l G fi fo kc ks M pc lv (.int (nI b) :: .int (nI a) :: st) h r := pm_imul d (by rw [pk_mul]; exact k)
theorem pm_isubN (d : decode M.2.1 pc = .ok (.isub, 1)) (hb : b ≤ a) (k : pm_Ev l G fi fo kc ks M (pc + 1) lv (.int (nI (a - b)) :: st) h r) : pm_Ev l G fi fo kc ks M pc lv (.int (nI b) :: .int (nI a) :: st) h r := pm_isub d (by rw [pk_sub hb]; exact k)
end PMN
theorem gW.N {S : gS} (hW : gW S) {i k v : Nat} (hv : (k = 0 → v ≤ 3) ∧ (k = 1 → v ≤ 18) ∧ (k = 2 → v < 20) ∧ (k = 3 → v ≤ 1) ∧ (k = 4 → v ≤ 1) ∧ (k = 5 → v ≤ 1)) : gW (gsN S i k v) := by
  obtain ⟨b1, b2, b3, b4, b5, b6⟩ := hW
  refine ⟨b1, b2, b3, b4, b5, fun n hn => ?_⟩
  have b := b6 n hn
  simp only [gN] at b
  simp only [gsN, gN, g_up2]
  by_cases e : n = i
  · subst e
    refine ⟨?_, ?_, ?_, ?_, ?_, ?_⟩ <;> (split <;> first | omega | (rename_i q; omega))
  · simp only [e, false_and, if_false]
    exact b
def g_clrN (S : gS) (k i e : Nat) : gS := (S.1, S.2.1, S.2.2.1, S.2.2.2.1, S.2.2.2.2.1, S.2.2.2.2.2.1, (fun n j => if j = k ∧ i ≤ n ∧ n < e then 0 else S.2.2.2.2.2.2.1 n j), S.2.2.2.2.2.2.2)
theorem g_clrN_0 (S : gS) (k i : Nat) : g_clrN S k i i = S := by
  have e : (fun n j => if j = k ∧ i ≤ n ∧ n < i then 0 else S.2.2.2.2.2.2.1 n j) = S.2.2.2.2.2.2.1 := by
    funext n j
    rw [if_neg (by omega)]
  simp only [g_clrN, e]
theorem g_clrN_s (S : gS) {k i e : Nat} (h : i < e) : g_clrN (gsN S i k 0) k (i + 1) e = g_clrN S k i e := by
  have q : (fun n j => if j = k ∧ i + 1 ≤ n ∧ n < e then 0 else g_up2 S.2.2.2.2.2.2.1 i k 0 n j) = (fun n j => if j = k ∧ i ≤ n ∧ n < e then 0 else S.2.2.2.2.2.2.1 n j) := by
    funext n j
    simp only [g_up2]
    by_cases h1 : n = i
    · subst h1
      by_cases h2 : j = k
      · subst h2
        rw [if_neg (by omega), if_pos ⟨rfl, rfl⟩, if_pos (by omega)]
      · rw [if_neg (fun q => h2 q.1), if_neg (fun q => h2 q.2), if_neg (fun q => h2 q.1)]
    · rw [if_neg (fun q : n = i ∧ j = k => h1 q.1)]
      by_cases h2 : j = k
      · by_cases h3 : i + 1 ≤ n ∧ n < e
        · rw [if_pos ⟨h2, h3⟩, if_pos ⟨h2, by omega, h3.2⟩]
        · rw [if_neg (fun q => h3 q.2), if_neg (fun q => h3 ⟨by omega, q.2.2⟩)]
      · rw [if_neg (fun q => h2 q.1), if_neg (fun q => h2 q.1)]
  show (_, _, _, _, _, _, _, _) = _
  simp only [g_clrN, gsN]
  rw [q]
theorem gW.clrN {S : gS} (hW : gW S) {k i e : Nat} : gW (g_clrN S k i e) := by
  obtain ⟨b1, b2, b3, b4, b5, b6⟩ := hW
  refine ⟨b1, b2, b3, b4, b5, fun n hn => ?_⟩
  have b := b6 n hn
  simp only [gN] at b
  simp only [g_clrN, gN]
  refine ⟨?_, ?_, ?_, ?_, ?_, ?_⟩ <;> (split <;> omega)
def g_cnt (f : Nat → Nat) : Nat → Nat → Nat
  | _, 0 => 0
  | i, d + 1 => (if f i = 0 then 0 else 1) + g_cnt f (i + 1) d
theorem g_cnt_le (f : Nat → Nat) : ∀ i d, g_cnt f i d ≤ d
  | _, 0 => Nat.le_refl _
  | i, d + 1 => by
    have h := g_cnt_le f (i + 1) d
    simp only [g_cnt]
    split <;> omega
set_option maxHeartbeats 4000000 in
set_option maxRecDepth 20000 in
theorem lp_forget {l : Launch} {G : pm_G} {fi : Bool} : ∀ (d i : Nat) (S : gS) (h : pm_H), gH S h → gW S → i + d = gG S 0 → pm_Px l G fi fi 0 0 M_Gr_forgetKnown 2 [(1, .int (nI i)), (0, .ref (0))] [] h (fun r => r.1 = .inl none ∧ gH (g_clrN S 5 i (gG S 0)) r.2 ∧ gFr h r.2) := by
  intro d
  induction d with
  | zero =>
    intro i S h H hW hb
    obtain ⟨b1, b2, b3, b4, b5, b6⟩ := id hW
    refine px (fun _ => pm_iload_n (pc := 2) d_Gr_forgetKnown_2 rfl) ?_
    refine px (fun _ => pm_aload_n (pc := 3) d_Gr_forgetKnown_3 rfl) ?_
    refine px (fun _ => pm_getf fl_Gr_35 (pc := 4) d_Gr_forgetKnown_4 H.1 rfl) ?_
    refine pxb (fun _ => pm_icmp_ge (pc := 7) (tgt := 26) d_Gr_forgetKnown_7 (by decide)) (fun c_1 => ?_) (fun c_1 => absurd (by rw [show i = gG S 0 by omega]; exact (nI_leI (a := gG S 0) (b := gG S 0) (by omega) (by omega)).mpr (Nat.le_refl _)) c_1)
    exact pxr (pm_vret (pc := 26) d_Gr_forgetKnown_26 rfl) ⟨rfl, by rw [show i = gG S 0 by omega, g_clrN_0]; exact H, gFr.rf h⟩
  | succ d ih =>
    intro i S h H hW hb
    obtain ⟨b1, b2, b3, b4, b5, b6⟩ := id hW
    have hi : i < 14 := by omega
    refine px (fun _ => pm_iload_n (pc := 2) d_Gr_forgetKnown_2 rfl) ?_
    refine px (fun _ => pm_aload_n (pc := 3) d_Gr_forgetKnown_3 rfl) ?_
    refine px (fun _ => pm_getf fl_Gr_35 (pc := 4) d_Gr_forgetKnown_4 H.1 rfl) ?_
    refine pxb (fun _ => pm_icmp_ge (pc := 7) (tgt := 26) d_Gr_forgetKnown_7 (by decide)) (fun c_1 => absurd c_1 (fun q => absurd ((nI_leI (a := gG S 0) (b := i) (by omega) (by omega)).mp q) (by omega))) (fun c_1 => ?_)
    refine px (fun _ => pm_aload_n (pc := 10) d_Gr_forgetKnown_10 rfl) ?_
    refine px (fun _ => pm_getf fl_Gr_17 (pc := 11) d_Gr_forgetKnown_11 H.1 rfl) ?_
    refine px (fun _ => pm_iload_n (pc := 14) d_Gr_forgetKnown_14 rfl) ?_
    obtain ⟨f_2, hf_3, gf_4⟩ := id H.2.2.1
    refine px (fun _ => pm_aald (kd := 4) (Cn := "GraphRunner$Node") (j := i) (pc := 15) d_Gr_forgetKnown_15 (fun _ => rfl) hf_3 (rfl) (hi) (by decide) (gf_4 i hi)) ?_
    refine px (fun _ => pm_iconst (v := 0) (pc := 16) d_Gr_forgetKnown_16 rfl) ?_
    refine px (fun _ => pm_putfC (c' := pm_Ob 0 [.ref (68 + 2 * i), .int (nI (gN S i 0)), .int (nI (gN S i 1)), .int (nI (gN S i 2)), .int (gQ S i 0), .int (gQ S i 1), .int (nI (gN S i 3)), .int (nI (gN S i 4)), .int (0)]) fp_Gr_193 (pc := 17) d_Gr_forgetKnown_17 (H.2.2.2.2.2.2.2 i hi).1 (Nat.le_of_ble_eq_true rfl) rfl rfl rfl) ?_
    have H_5 : gH (gsN S i 5 0) (h.set (67 + 2 * i) (pm_Ob 0 [.ref (68 + 2 * i), .int (nI (gN S i 0)), .int (nI (gN S i 1)), .int (nI (gN S i 2)), .int (gQ S i 0), .int (gQ S i 1), .int (nI (gN S i 3)), .int (nI (gN S i 4)), .int (0)])) := H.N5 (i := i) (v := 0) hi
    refine px (fun _ => pm_iinc (x := nI i) (v := nI (i + 1)) (lv' := [(1, .int (nI (i + 1))), (0, .ref (0))]) (pc := 20) d_Gr_forgetKnown_20 rfl (nI_1 _) (by decide) rfl) ?_
    refine px (fun _ => pm_goto (tgt := 2) (pc := 23) d_Gr_forgetKnown_23 (by decide)) ?_
    exact pxm (ih (i + 1) _ _ H_5 (hW.N (by omega)) (by show i + 1 + d = gG S 0; omega)) (fun r q => ⟨q.1, by have q2 := q.2.1; rw [show gG (gsN S i 5 0) 0 = gG S 0 from rfl, g_clrN_s S (by omega)] at q2; exact q2, (gFr.set h _ (by omega)).tr q.2.2⟩)
set_option maxHeartbeats 4000000 in
set_option maxRecDepth 20000 in
theorem lp_unprep {l : Launch} {G : pm_G} {fi : Bool} : ∀ (d i : Nat) (S : gS) (h : pm_H), gH S h → gW S → i + d = gG S 0 → pm_Px l G fi fi 0 0 M_Gr_unprepare 11 [(1, .int (nI i)), (0, .ref (0))] [] h (fun r => r.1 = .inl none ∧ gH (g_clrN S 4 i (gG S 0)) r.2 ∧ gFr h r.2) := by
  intro d
  induction d with
  | zero =>
    intro i S h H hW hb
    obtain ⟨b1, b2, b3, b4, b5, b6⟩ := id hW
    refine px (fun _ => pm_iload_n (pc := 11) d_Gr_unprepare_11 rfl) ?_
    refine px (fun _ => pm_aload_n (pc := 12) d_Gr_unprepare_12 rfl) ?_
    refine px (fun _ => pm_getf fl_Gr_35 (pc := 13) d_Gr_unprepare_13 H.1 rfl) ?_
    refine pxb (fun _ => pm_icmp_ge (pc := 16) (tgt := 35) d_Gr_unprepare_16 (by decide)) (fun c_1 => ?_) (fun c_1 => absurd (by rw [show i = gG S 0 by omega]; exact (nI_leI (a := gG S 0) (b := gG S 0) (by omega) (by omega)).mpr (Nat.le_refl _)) c_1)
    exact pxr (pm_vret (pc := 35) d_Gr_unprepare_35 rfl) ⟨rfl, by rw [show i = gG S 0 by omega, g_clrN_0]; exact H, gFr.rf h⟩
  | succ d ih =>
    intro i S h H hW hb
    obtain ⟨b1, b2, b3, b4, b5, b6⟩ := id hW
    have hi : i < 14 := by omega
    refine px (fun _ => pm_iload_n (pc := 11) d_Gr_unprepare_11 rfl) ?_
    refine px (fun _ => pm_aload_n (pc := 12) d_Gr_unprepare_12 rfl) ?_
    refine px (fun _ => pm_getf fl_Gr_35 (pc := 13) d_Gr_unprepare_13 H.1 rfl) ?_
    refine pxb (fun _ => pm_icmp_ge (pc := 16) (tgt := 35) d_Gr_unprepare_16 (by decide)) (fun c_1 => absurd c_1 (fun q => absurd ((nI_leI (a := gG S 0) (b := i) (by omega) (by omega)).mp q) (by omega))) (fun c_1 => ?_)
    refine px (fun _ => pm_aload_n (pc := 19) d_Gr_unprepare_19 rfl) ?_
    refine px (fun _ => pm_getf fl_Gr_17 (pc := 20) d_Gr_unprepare_20 H.1 rfl) ?_
    refine px (fun _ => pm_iload_n (pc := 23) d_Gr_unprepare_23 rfl) ?_
    obtain ⟨f_2, hf_3, gf_4⟩ := id H.2.2.1
    refine px (fun _ => pm_aald (kd := 4) (Cn := "GraphRunner$Node") (j := i) (pc := 24) d_Gr_unprepare_24 (fun _ => rfl) hf_3 (rfl) (hi) (by decide) (gf_4 i hi)) ?_
    refine px (fun _ => pm_iconst (v := 0) (pc := 25) d_Gr_unprepare_25 rfl) ?_
    refine px (fun _ => pm_putfC (c' := pm_Ob 0 [.ref (68 + 2 * i), .int (nI (gN S i 0)), .int (nI (gN S i 1)), .int (nI (gN S i 2)), .int (gQ S i 0), .int (gQ S i 1), .int (nI (gN S i 3)), .int (0), .int (nI (gN S i 5))]) fp_Gr_187 (pc := 26) d_Gr_unprepare_26 (H.2.2.2.2.2.2.2 i hi).1 (Nat.le_of_ble_eq_true rfl) rfl rfl rfl) ?_
    have H_5 : gH (gsN S i 4 0) (h.set (67 + 2 * i) (pm_Ob 0 [.ref (68 + 2 * i), .int (nI (gN S i 0)), .int (nI (gN S i 1)), .int (nI (gN S i 2)), .int (gQ S i 0), .int (gQ S i 1), .int (nI (gN S i 3)), .int (0), .int (nI (gN S i 5))])) := H.N4 (i := i) (v := 0) hi
    refine px (fun _ => pm_iinc (x := nI i) (v := nI (i + 1)) (lv' := [(1, .int (nI (i + 1))), (0, .ref (0))]) (pc := 29) d_Gr_unprepare_29 rfl (nI_1 _) (by decide) rfl) ?_
    refine px (fun _ => pm_goto (tgt := 11) (pc := 32) d_Gr_unprepare_32 (by decide)) ?_
    exact pxm (ih (i + 1) _ _ H_5 (hW.N (by omega)) (by show i + 1 + d = gG S 0; omega)) (fun r q => ⟨q.1, by have q2 := q.2.1; rw [show gG (gsN S i 4 0) 0 = gG S 0 from rfl, g_clrN_s S (by omega)] at q2; exact q2, (gFr.set h _ (by omega)).tr q.2.2⟩)
set_option maxHeartbeats 4000000 in
set_option maxRecDepth 20000 in
theorem c_forget {l : Launch} {G : pm_G} {fi : Bool} {h : pm_H} {S : gS}  (hl : l.stackTraces = false) (H : gH S h) (hW : gW S)  : pm_Cn l G fi fi 0 0 M_Gr_forgetKnown [.ref (0)] h (fun r => r.1 = .inl none ∧ gH (g_clrN S 5 0 (gG S 0)) r.2 ∧ gFr h r.2) := by
  refine pm_Cn.of hl (by decide) (Nat.le_of_ble_eq_true rfl) ?_
  obtain ⟨b1, b2, b3, b4, b5, b6⟩ := id hW
  refine px (fun _ => pm_iconst (v := 0) (pc := 0) d_Gr_forgetKnown_0 rfl) ?_
  refine px (fun _ => pm_istore_n (lv' := [(1, .int (0)), (0, .ref (0))]) (pc := 1) d_Gr_forgetKnown_1 (by decide) rfl) ?_
  exact lp_forget (gG S 0) 0 S h H hW (by omega)
set_option maxHeartbeats 4000000 in
set_option maxRecDepth 20000 in
theorem c_unprep {l : Launch} {G : pm_G} {fi : Bool} {h : pm_H} {S : gS}  (hl : l.stackTraces = false) (H : gH S h) (hW : gW S)  : pm_Cn l G fi fi 0 0 M_Gr_unprepare [.ref (0)] h (fun r => r.1 = .inl none ∧ gH (g_clrN (g_clrN (gsG S 1 0) 5 0 (gG S 0)) 4 0 (gG S 0)) r.2 ∧ gFr h r.2) := by
  refine pm_Cn.of hl (by decide) (Nat.le_of_ble_eq_true rfl) ?_
  obtain ⟨b1, b2, b3, b4, b5, b6⟩ := id hW
  have hW1 : gW (gsG S 1 0) := ⟨b1, Nat.zero_le _, b3, b4, b5, b6⟩
  refine px (fun _ => pm_aload_n (pc := 0) d_Gr_unprepare_0 rfl) ?_
  refine px (fun _ => pm_iconst (v := 0) (pc := 1) d_Gr_unprepare_1 rfl) ?_
  refine px (fun _ => pm_putfC (c' := pm_Ob 3 [.ref (1), .ref (2), .ref (3), .ref (4), .ref (5), .int (nI (gG S 0)), .int (0), .int (nI (gG S 2)), .int (nI (gG S 3))]) fp_Gr_39 (pc := 2) d_Gr_unprepare_2 H.1 (Nat.le_of_ble_eq_true rfl) rfl rfl rfl) ?_
  have H_1 : gH (gsG S 1 0) (h.set (0) (pm_Ob 3 [.ref (1), .ref (2), .ref (3), .ref (4), .ref (5), .int (nI (gG S 0)), .int (0), .int (nI (gG S 2)), .int (nI (gG S 3))])) := H.G1 (v := 0)
  refine px (fun _ => pm_aload_n (pc := 5) d_Gr_unprepare_5 rfl) ?_
  obtain ⟨⟨o1, h1⟩, ⟨e1, H1, F1⟩, en1⟩ := c_forget (l := l) (G := G) (fi := fi) hl H_1 hW1
  dsimp only at e1 H1 F1
  subst e1
  refine px (fun _ => k_Gr_unprepare_6 (kc1 := 0) (ks1 := 0) (kc := 0) (ks := 0) (av := []) (st := []) H_1.1 (en1) rfl rfl (Nat.le_of_ble_eq_true rfl)) ?_
  refine px (fun _ => pm_iconst (v := 0) (pc := 9) d_Gr_unprepare_9 rfl) ?_
  refine px (fun _ => pm_istore_n (lv' := [(1, .int (0)), (0, .ref (0))]) (pc := 10) d_Gr_unprepare_10 (by decide) rfl) ?_
  exact pxm (lp_unprep (gG S 0) 0 _ h1 H1 hW1.clrN (by show 0 + gG S 0 = gG S 0; omega)) (fun r q => ⟨q.1, q.2.1, (gFr.set h _ (by omega)).tr (F1.tr q.2.2)⟩)
