/-! ===== the law's loop ===== -/
theorem l_end {L i : Nat} (hL : L ≤ 4096) (hi : i ≤ 8192) (h : L < i + 8) : nI L - 8 < nI i := by
  by_cases q : 8 ≤ L
  · rw [show nI L - 8 = nI (L - 8) from pk_sub (a := L) (b := 8) q]
    exact (nI_ltI (a := L - 8) (b := i) (by omega) (by omega)).mpr (by omega)
  · have h1 : nI L - 8 < 0 := g_subneg L (by omega) 8 (by omega) (by omega)
    exact Int32.lt_of_lt_of_le h1 (nI_pos' (by omega))
theorem l_go {L i : Nat} (hL : L ≤ 4096) (h : i + 8 ≤ L) : ¬ nI L - 8 < nI i := by
  rw [show nI L - 8 = nI (L - 8) from pk_sub (a := L) (b := 8) (by omega)]
  exact fun q => absurd ((nI_ltI (a := L - 8) (b := i) (by omega) (by omega)).mp q) (by omega)
theorem l_sw (v : Int32) : v = 0 ∨ v = 1 ∨ v = 2 ∨ v = 3 ∨ v = 4 ∨ v = 5 ∨ v = 6 ∨ v = 7 ∨ v = 8 ∨ (v.toInt < 0 ∨ 8 < v.toInt) := by
  by_cases h : v.toInt < 0 ∨ 8 < v.toInt
  · simp only [h, or_true]
  · obtain ⟨j, hj, rfl⟩ := nI_of (x := v) (fun q => h (Or.inl (Int32.lt_iff_toInt_lt.mp q)))
    rw [nI_toInt hj] at h
    have e : j = 0 ∨ j = 1 ∨ j = 2 ∨ j = 3 ∨ j = 4 ∨ j = 5 ∨ j = 6 ∨ j = 7 ∨ j = 8 := by omega
    rcases e with rfl | rfl | rfl | rfl | rfl | rfl | rfl | rfl | rfl
    · exact Or.inl rfl
    · exact Or.inr (Or.inl rfl)
    · exact Or.inr (Or.inr (Or.inl rfl))
    · exact Or.inr (Or.inr (Or.inr (Or.inl rfl)))
    · exact Or.inr (Or.inr (Or.inr (Or.inr (Or.inl rfl))))
    · exact Or.inr (Or.inr (Or.inr (Or.inr (Or.inr (Or.inl rfl)))))
    · exact Or.inr (Or.inr (Or.inr (Or.inr (Or.inr (Or.inr (Or.inl rfl))))))
    · exact Or.inr (Or.inr (Or.inr (Or.inr (Or.inr (Or.inr (Or.inr (Or.inl rfl)))))))
    · exact Or.inr (Or.inr (Or.inr (Or.inr (Or.inr (Or.inr (Or.inr (Or.inr (Or.inl rfl))))))))
theorem lg_self (x : Int64) : lg_cmp x x = 0 := by
  unfold lg_cmp
  rw [if_neg (Int64.lt_irrefl), if_pos rfl]
theorem l_dself {x : UInt64} (h : gB x) : Op.cmpValue (FP.dcmp x x) .l = 0 := by
  have e : FP.dcmp x x = some .eq := FP.Core.dcmp_refl ((FP.Core.notNaN_iff x).mpr (g_nan (g_nn_of h)))
  rw [e]; rfl
theorem pxmk {l : Launch} {G : pm_G} {fi fo : Bool} {kc ks kc' ks' : Nat} {M : pm_M} {pc : Nat} {lv : List (Nat × Value)} {st : List Value} {h : pm_H} {Post : pm_O × pm_H → Prop} (k : pm_Px l G fi fo kc ks M pc lv st h Post) (hc : kc ≤ kc' := by omega) (hs : ks ≤ ks' := by omega) : pm_Px l G fi fo kc' ks' M pc lv st h Post := px (fun _ q => q.more hc hs) k
/-- a number from 1/8 of an int is none -/
theorem l_dmul (v : Int32) : vf_n64 (FP.dmul (FP.i2d v) 4593671619917905920) := g_nmul (FP.Core.i2d_mag v) (by decide)
set_option maxHeartbeats 1000000 in
set_option maxRecDepth 20000 in
theorem lp_law {l : Launch} {G : pm_G} (hl : l.stackTraces = false) (hL : G.2.2.2.2.1 ≤ 4096) : ∀ (d q : Nat) (S : gS) (T : mS) (h : pm_H), lR S T h → q ≤ 600 → G.2.2.2.2.1 < 8 * (q + d) + 8 → pm_Px l G false false d (6 * d) M_Lw_law 28 [(5, .int (nI (8 * q))), (0, .retAddr 0), (1, .ref (0)), (2, .ref (95)), (3, .ref (110)), (4, .ref (111))] [] h (fun r => r.1 = .inl (some (.int 1))) := by
  have hL31 : G.2.2.2.2.1 < 2 ^ 31 := by omega
  intro d
  induction d with
  | zero =>
    intro q S T h lr hq hd
    refine px (fun _ => pm_iload (pc := 28) d_Lw_law_28 rfl) ?_
    refine px (fun _ => pm_aload_nO (pc := 30) d_Lw_law_30 rfl) ?_
    refine px (fun _ => pm_slen (pc := 31) d_Lw_law_31) ?_
    refine px (fun _ => pm_bipush (v := 8) (pc := 32) d_Lw_law_32 rfl) ?_
    refine px (fun _ => pm_isub (pc := 34) d_Lw_law_34) ?_
    refine pxb (fun _ => pm_icmp_gt (pc := 35) (tgt := 734) d_Lw_law_35 (by decide)) (fun c_1 => ?_) (fun c_1 => absurd (l_end hL (by omega) (by omega)) c_1)
    refine px (fun _ => pm_iconst (v := 1) (pc := 734) d_Lw_law_734 rfl) ?_
    exact pxr (pm_iret (pc := 735) d_Lw_law_735 rfl rfl) rfl
  | succ d ih =>
    intro q S T h lr hq hd
    by_cases hc : 8 * q + 8 ≤ G.2.2.2.2.1
    · refine px (fun _ => pm_iload (pc := 28) d_Lw_law_28 rfl) ?_
      refine px (fun _ => pm_aload_nO (pc := 30) d_Lw_law_30 rfl) ?_
      refine px (fun _ => pm_slen (pc := 31) d_Lw_law_31) ?_
      refine px (fun _ => pm_bipush (v := 8) (pc := 32) d_Lw_law_32 rfl) ?_
      refine px (fun _ => pm_isub (pc := 34) d_Lw_law_34) ?_
      refine pxb (fun _ => pm_icmp_gt (pc := 35) (tgt := 734) d_Lw_law_35 (by decide)) (fun c_1 => absurd c_1 (l_go hL hc)) (fun c_1 => ?_)
      refine px (fun _ => pm_aload_nO (pc := 38) d_Lw_law_38 rfl) ?_
      refine px (fun _ => pm_iload (pc := 39) d_Lw_law_39 rfl) ?_
      refine px (fun _ => pm_sld (j := 8 * q) (pc := 41) d_Lw_law_41 (rfl) (by omega) hL31) ?_
      refine px (fun _ => pm_bipush (v := 15) (pc := 42) d_Lw_law_42 rfl) ?_
      refine px (fun _ => pm_iand (pc := 44) d_Lw_law_44) ?_
      rcases l_sw (G.2.2.2.2.2 (8 * q) &&& 15) with hv | hv | hv | hv | hv | hv | hv | hv | hv | hv
      · skip
        have tx_45 : ((G.2.2.2.2.2 (8 * q) &&& 15) : Int32).toInt = 0 := by rw [hv]; rfl
        refine px (fun _ => pm_tabIn (off := 51) (tgt := 96) (pc := 45) d_Lw_law_45 (by rw [tx_45]; decide) (by rw [tx_45]; decide) (by rw [tx_45]; rfl) (by decide)) ?_
        by_cases hz : G.2.2.2.2.2 (8 * q + 5) = 0
        · skip
          refine px (fun _ => pm_aload_n (pc := 96) d_Lw_law_96 rfl) ?_
          refine px (fun _ => pm_aload_nO (pc := 97) d_Lw_law_97 rfl) ?_
          refine px (fun _ => pm_iload (pc := 98) d_Lw_law_98 rfl) ?_
          refine px (fun _ => pm_iconst (v := 1) (pc := 100) d_Lw_law_100 rfl) ?_
          refine px (fun _ => pm_iaddN (a := (8 * q)) (b := 1) (pc := 101) d_Lw_law_101) ?_
          refine px (fun _ => pm_sld (j := (8 * q) + 1) (pc := 102) d_Lw_law_102 (rfl) (by omega) hL31) ?_
          refine px (fun _ => pm_aload_nO (pc := 103) d_Lw_law_103 rfl) ?_
          refine px (fun _ => pm_iload (pc := 104) d_Lw_law_104 rfl) ?_
          refine px (fun _ => pm_iconst (v := 2) (pc := 106) d_Lw_law_106 rfl) ?_
          refine px (fun _ => pm_iaddN (a := (8 * q)) (b := 2) (pc := 107) d_Lw_law_107) ?_
          refine px (fun _ => pm_sld (j := (8 * q) + 2) (pc := 108) d_Lw_law_108 (rfl) (by omega) hL31) ?_
          refine px (fun _ => pm_aload_nO (pc := 109) d_Lw_law_109 rfl) ?_
          refine px (fun _ => pm_iload (pc := 110) d_Lw_law_110 rfl) ?_
          refine px (fun _ => pm_iconst (v := 3) (pc := 112) d_Lw_law_112 rfl) ?_
          refine px (fun _ => pm_iaddN (a := (8 * q)) (b := 3) (pc := 113) d_Lw_law_113) ?_
          refine px (fun _ => pm_sld (j := (8 * q) + 3) (pc := 114) d_Lw_law_114 (rfl) (by omega) hL31) ?_
          refine px (fun _ => pm_aload_nO (pc := 115) d_Lw_law_115 rfl) ?_
          refine px (fun _ => pm_iload (pc := 116) d_Lw_law_116 rfl) ?_
          refine px (fun _ => pm_iconst (v := 4) (pc := 118) d_Lw_law_118 rfl) ?_
          refine px (fun _ => pm_iaddN (a := (8 * q)) (b := 4) (pc := 119) d_Lw_law_119) ?_
          refine px (fun _ => pm_sld (j := (8 * q) + 4) (pc := 120) d_Lw_law_120 (rfl) (by omega) hL31) ?_
          refine px (fun _ => pm_aload_nO (pc := 121) d_Lw_law_121 rfl) ?_
          refine px (fun _ => pm_iload (pc := 122) d_Lw_law_122 rfl) ?_
          refine px (fun _ => pm_iconst (v := 5) (pc := 124) d_Lw_law_124 rfl) ?_
          refine px (fun _ => pm_iaddN (a := (8 * q)) (b := 5) (pc := 125) d_Lw_law_125) ?_
          refine px (fun _ => pm_sld (j := (8 * q) + 5) (pc := 126) d_Lw_law_126 (rfl) (by omega) hL31) ?_
          refine pxb (fun _ => pm_if_eq (pc := 127) (tgt := 134) d_Lw_law_127 (by decide)) (fun c_2 => ?_) (fun c_2 => absurd (hz) c_2)
          refine px (fun _ => pm_iconst (v := 0) (pc := 134) d_Lw_law_134 rfl) ?_
          obtain ⟨k, h1, h2, S2, T2, fs2, enL, hb2, enM, lr2, t5⟩ := L_table (l := l) (G := G) (p0 := G.2.2.2.2.2 ((8 * q) + 1)) (p1 := G.2.2.2.2.2 ((8 * q) + 2)) (p2 := G.2.2.2.2.2 ((8 * q) + 3)) (p3 := G.2.2.2.2.2 ((8 * q) + 4)) 0 hl lr (by omega)
          refine px (fun _ z9 => pm_Ev.more (kc := 1 + d) (ks := 6 + 6 * d) (by omega) (by omega) (k_Lw_law_135 (kc1 := 1) (ks1 := 6) (kc := d) (ks := 6 * d) (av := [.ref (0), .int (G.2.2.2.2.2 ((8 * q) + 1)), .int (G.2.2.2.2.2 ((8 * q) + 2)), .int (G.2.2.2.2.2 ((8 * q) + 3)), .int (G.2.2.2.2.2 ((8 * q) + 4)), .int (0)]) (st := []) (enL) rfl rfl (Nat.le_of_ble_eq_true rfl) z9)) ?_
          refine px (fun _ => pm_istore (lv' := [(6, .int (nI k)), (5, .int (nI (8 * q))), (0, .retAddr 0), (1, .ref (0)), (2, .ref (95)), (3, .ref (110)), (4, .ref (111))]) (pc := 138) d_Lw_law_138 (by decide) rfl) ?_
          refine px (fun _ => pm_aload_n (pc := 140) d_Lw_law_140 rfl) ?_
          refine px (fun _ => pm_aload_nO (pc := 141) d_Lw_law_141 rfl) ?_
          refine px (fun _ => pm_iload (pc := 142) d_Lw_law_142 rfl) ?_
          refine px (fun _ => pm_iconst (v := 1) (pc := 144) d_Lw_law_144 rfl) ?_
          refine px (fun _ => pm_iaddN (a := (8 * q)) (b := 1) (pc := 145) d_Lw_law_145) ?_
          refine px (fun _ => pm_sld (j := (8 * q) + 1) (pc := 146) d_Lw_law_146 (rfl) (by omega) hL31) ?_
          refine px (fun _ => pm_aload_nO (pc := 147) d_Lw_law_147 rfl) ?_
          refine px (fun _ => pm_iload (pc := 148) d_Lw_law_148 rfl) ?_
          refine px (fun _ => pm_iconst (v := 2) (pc := 150) d_Lw_law_150 rfl) ?_
          refine px (fun _ => pm_iaddN (a := (8 * q)) (b := 2) (pc := 151) d_Lw_law_151) ?_
          refine px (fun _ => pm_sld (j := (8 * q) + 2) (pc := 152) d_Lw_law_152 (rfl) (by omega) hL31) ?_
          refine px (fun _ => pm_aload_nO (pc := 153) d_Lw_law_153 rfl) ?_
          refine px (fun _ => pm_iload (pc := 154) d_Lw_law_154 rfl) ?_
          refine px (fun _ => pm_iconst (v := 3) (pc := 156) d_Lw_law_156 rfl) ?_
          refine px (fun _ => pm_iaddN (a := (8 * q)) (b := 3) (pc := 157) d_Lw_law_157) ?_
          refine px (fun _ => pm_sld (j := (8 * q) + 3) (pc := 158) d_Lw_law_158 (rfl) (by omega) hL31) ?_
          refine px (fun _ => pm_aload_nO (pc := 159) d_Lw_law_159 rfl) ?_
          refine px (fun _ => pm_iload (pc := 160) d_Lw_law_160 rfl) ?_
          refine px (fun _ => pm_iconst (v := 4) (pc := 162) d_Lw_law_162 rfl) ?_
          refine px (fun _ => pm_iaddN (a := (8 * q)) (b := 4) (pc := 163) d_Lw_law_163) ?_
          refine px (fun _ => pm_sld (j := (8 * q) + 4) (pc := 164) d_Lw_law_164 (rfl) (by omega) hL31) ?_
          refine px (fun _ => pm_aload_nO (pc := 165) d_Lw_law_165 rfl) ?_
          refine px (fun _ => pm_iload (pc := 166) d_Lw_law_166 rfl) ?_
          refine px (fun _ => pm_iconst (v := 5) (pc := 168) d_Lw_law_168 rfl) ?_
          refine px (fun _ => pm_iaddN (a := (8 * q)) (b := 5) (pc := 169) d_Lw_law_169) ?_
          refine px (fun _ => pm_sld (j := (8 * q) + 5) (pc := 170) d_Lw_law_170 (rfl) (by omega) hL31) ?_
          refine pxb (fun _ => pm_if_eq (pc := 171) (tgt := 178) d_Lw_law_171 (by decide)) (fun c_3 => ?_) (fun c_3 => absurd (hz) c_3)
          refine px (fun _ => pm_iconst (v := 0) (pc := 178) d_Lw_law_178 rfl) ?_
          refine px (fun _ z9 => pm_Ev.more (kc := 0 + d) (ks := 0 + 6 * d) (by omega) (by omega) (k_Lw_law_179 (kc1 := 0) (ks1 := 0) (kc := d) (ks := 6 * d) (av := [.int (G.2.2.2.2.2 ((8 * q) + 1)), .int (G.2.2.2.2.2 ((8 * q) + 2)), .int (G.2.2.2.2.2 ((8 * q) + 3)), .int (G.2.2.2.2.2 ((8 * q) + 4)), .int (0)]) (st := []) hb2 (enM) rfl rfl (Nat.le_of_ble_eq_true rfl) z9)) ?_
          refine px (fun _ => pm_aload_n (pc := 182) d_Lw_law_182 rfl) ?_
          refine px (fun _ z9 => pm_Ev.more (kc := 0 + d) (ks := 0 + 6 * d) (by omega) (by omega) (k_Lw_law_183 (kc1 := 0) (ks1 := 0) (kc := d) (ks := 6 * d) (av := []) (st := []) lr2.2.1.1 (m_thrown hl lr2.2.1) rfl rfl (Nat.le_of_ble_eq_true rfl) z9)) ?_
          refine px (fun _ => pm_iload (pc := 186) d_Lw_law_186 rfl) ?_
          refine pxb (fun _ => pm_icmp_eq (pc := 188) (tgt := 193) d_Lw_law_188 (by decide)) (fun c_4 => ?_) (fun c_4 => absurd (by rw [t5]) c_4)
          refine px (fun _ => pm_goto (tgt := 728) (pc := 193) d_Lw_law_193 (by decide)) ?_
          refine px (fun _ => pm_iinc (x := nI (8 * q)) (v := nI ((8 * q) + 8)) (lv' := [(5, .int (nI ((8 * q) + 8))), (6, .int (nI k)), (0, .retAddr 0), (1, .ref (0)), (2, .ref (95)), (3, .ref (110)), (4, .ref (111))]) (pc := 728) d_Lw_law_728 rfl (nI_add _ 8) (by decide) rfl) ?_
          refine px (fun _ => pm_goto (tgt := 28) (pc := 731) d_Lw_law_731 (by decide)) ?_
          refine pxd [0, 2, 3, 4, 5, 6] rfl ?_
          rw [show 8 * q + 8 = 8 * (q + 1) by omega]
          exact pxmk (ih (q + 1) _ _ _ lr2 (by omega) (by omega))
        · skip
          refine px (fun _ => pm_aload_n (pc := 96) d_Lw_law_96 rfl) ?_
          refine px (fun _ => pm_aload_nO (pc := 97) d_Lw_law_97 rfl) ?_
          refine px (fun _ => pm_iload (pc := 98) d_Lw_law_98 rfl) ?_
          refine px (fun _ => pm_iconst (v := 1) (pc := 100) d_Lw_law_100 rfl) ?_
          refine px (fun _ => pm_iaddN (a := (8 * q)) (b := 1) (pc := 101) d_Lw_law_101) ?_
          refine px (fun _ => pm_sld (j := (8 * q) + 1) (pc := 102) d_Lw_law_102 (rfl) (by omega) hL31) ?_
          refine px (fun _ => pm_aload_nO (pc := 103) d_Lw_law_103 rfl) ?_
          refine px (fun _ => pm_iload (pc := 104) d_Lw_law_104 rfl) ?_
          refine px (fun _ => pm_iconst (v := 2) (pc := 106) d_Lw_law_106 rfl) ?_
          refine px (fun _ => pm_iaddN (a := (8 * q)) (b := 2) (pc := 107) d_Lw_law_107) ?_
          refine px (fun _ => pm_sld (j := (8 * q) + 2) (pc := 108) d_Lw_law_108 (rfl) (by omega) hL31) ?_
          refine px (fun _ => pm_aload_nO (pc := 109) d_Lw_law_109 rfl) ?_
          refine px (fun _ => pm_iload (pc := 110) d_Lw_law_110 rfl) ?_
          refine px (fun _ => pm_iconst (v := 3) (pc := 112) d_Lw_law_112 rfl) ?_
          refine px (fun _ => pm_iaddN (a := (8 * q)) (b := 3) (pc := 113) d_Lw_law_113) ?_
          refine px (fun _ => pm_sld (j := (8 * q) + 3) (pc := 114) d_Lw_law_114 (rfl) (by omega) hL31) ?_
          refine px (fun _ => pm_aload_nO (pc := 115) d_Lw_law_115 rfl) ?_
          refine px (fun _ => pm_iload (pc := 116) d_Lw_law_116 rfl) ?_
          refine px (fun _ => pm_iconst (v := 4) (pc := 118) d_Lw_law_118 rfl) ?_
          refine px (fun _ => pm_iaddN (a := (8 * q)) (b := 4) (pc := 119) d_Lw_law_119) ?_
          refine px (fun _ => pm_sld (j := (8 * q) + 4) (pc := 120) d_Lw_law_120 (rfl) (by omega) hL31) ?_
          refine px (fun _ => pm_aload_nO (pc := 121) d_Lw_law_121 rfl) ?_
          refine px (fun _ => pm_iload (pc := 122) d_Lw_law_122 rfl) ?_
          refine px (fun _ => pm_iconst (v := 5) (pc := 124) d_Lw_law_124 rfl) ?_
          refine px (fun _ => pm_iaddN (a := (8 * q)) (b := 5) (pc := 125) d_Lw_law_125) ?_
          refine px (fun _ => pm_sld (j := (8 * q) + 5) (pc := 126) d_Lw_law_126 (rfl) (by omega) hL31) ?_
          refine pxb (fun _ => pm_if_eq (pc := 127) (tgt := 134) d_Lw_law_127 (by decide)) (fun c_5 => absurd c_5 (hz)) (fun c_5 => ?_)
          refine px (fun _ => pm_iconst (v := 1) (pc := 130) d_Lw_law_130 rfl) ?_
          refine px (fun _ => pm_goto (tgt := 135) (pc := 131) d_Lw_law_131 (by decide)) ?_
          obtain ⟨k, h1, h2, S2, T2, fs2, enL, hb2, enM, lr2, t5⟩ := L_table (l := l) (G := G) (p0 := G.2.2.2.2.2 ((8 * q) + 1)) (p1 := G.2.2.2.2.2 ((8 * q) + 2)) (p2 := G.2.2.2.2.2 ((8 * q) + 3)) (p3 := G.2.2.2.2.2 ((8 * q) + 4)) 1 hl lr (by omega)
          refine px (fun _ z9 => pm_Ev.more (kc := 1 + d) (ks := 6 + 6 * d) (by omega) (by omega) (k_Lw_law_135 (kc1 := 1) (ks1 := 6) (kc := d) (ks := 6 * d) (av := [.ref (0), .int (G.2.2.2.2.2 ((8 * q) + 1)), .int (G.2.2.2.2.2 ((8 * q) + 2)), .int (G.2.2.2.2.2 ((8 * q) + 3)), .int (G.2.2.2.2.2 ((8 * q) + 4)), .int (1)]) (st := []) (enL) rfl rfl (Nat.le_of_ble_eq_true rfl) z9)) ?_
          refine px (fun _ => pm_istore (lv' := [(6, .int (nI k)), (5, .int (nI (8 * q))), (0, .retAddr 0), (1, .ref (0)), (2, .ref (95)), (3, .ref (110)), (4, .ref (111))]) (pc := 138) d_Lw_law_138 (by decide) rfl) ?_
          refine px (fun _ => pm_aload_n (pc := 140) d_Lw_law_140 rfl) ?_
          refine px (fun _ => pm_aload_nO (pc := 141) d_Lw_law_141 rfl) ?_
          refine px (fun _ => pm_iload (pc := 142) d_Lw_law_142 rfl) ?_
          refine px (fun _ => pm_iconst (v := 1) (pc := 144) d_Lw_law_144 rfl) ?_
          refine px (fun _ => pm_iaddN (a := (8 * q)) (b := 1) (pc := 145) d_Lw_law_145) ?_
          refine px (fun _ => pm_sld (j := (8 * q) + 1) (pc := 146) d_Lw_law_146 (rfl) (by omega) hL31) ?_
          refine px (fun _ => pm_aload_nO (pc := 147) d_Lw_law_147 rfl) ?_
          refine px (fun _ => pm_iload (pc := 148) d_Lw_law_148 rfl) ?_
          refine px (fun _ => pm_iconst (v := 2) (pc := 150) d_Lw_law_150 rfl) ?_
          refine px (fun _ => pm_iaddN (a := (8 * q)) (b := 2) (pc := 151) d_Lw_law_151) ?_
          refine px (fun _ => pm_sld (j := (8 * q) + 2) (pc := 152) d_Lw_law_152 (rfl) (by omega) hL31) ?_
          refine px (fun _ => pm_aload_nO (pc := 153) d_Lw_law_153 rfl) ?_
          refine px (fun _ => pm_iload (pc := 154) d_Lw_law_154 rfl) ?_
          refine px (fun _ => pm_iconst (v := 3) (pc := 156) d_Lw_law_156 rfl) ?_
          refine px (fun _ => pm_iaddN (a := (8 * q)) (b := 3) (pc := 157) d_Lw_law_157) ?_
          refine px (fun _ => pm_sld (j := (8 * q) + 3) (pc := 158) d_Lw_law_158 (rfl) (by omega) hL31) ?_
          refine px (fun _ => pm_aload_nO (pc := 159) d_Lw_law_159 rfl) ?_
          refine px (fun _ => pm_iload (pc := 160) d_Lw_law_160 rfl) ?_
          refine px (fun _ => pm_iconst (v := 4) (pc := 162) d_Lw_law_162 rfl) ?_
          refine px (fun _ => pm_iaddN (a := (8 * q)) (b := 4) (pc := 163) d_Lw_law_163) ?_
          refine px (fun _ => pm_sld (j := (8 * q) + 4) (pc := 164) d_Lw_law_164 (rfl) (by omega) hL31) ?_
          refine px (fun _ => pm_aload_nO (pc := 165) d_Lw_law_165 rfl) ?_
          refine px (fun _ => pm_iload (pc := 166) d_Lw_law_166 rfl) ?_
          refine px (fun _ => pm_iconst (v := 5) (pc := 168) d_Lw_law_168 rfl) ?_
          refine px (fun _ => pm_iaddN (a := (8 * q)) (b := 5) (pc := 169) d_Lw_law_169) ?_
          refine px (fun _ => pm_sld (j := (8 * q) + 5) (pc := 170) d_Lw_law_170 (rfl) (by omega) hL31) ?_
          refine pxb (fun _ => pm_if_eq (pc := 171) (tgt := 178) d_Lw_law_171 (by decide)) (fun c_6 => absurd c_6 (hz)) (fun c_6 => ?_)
          refine px (fun _ => pm_iconst (v := 1) (pc := 174) d_Lw_law_174 rfl) ?_
          refine px (fun _ => pm_goto (tgt := 179) (pc := 175) d_Lw_law_175 (by decide)) ?_
          refine px (fun _ z9 => pm_Ev.more (kc := 0 + d) (ks := 0 + 6 * d) (by omega) (by omega) (k_Lw_law_179 (kc1 := 0) (ks1 := 0) (kc := d) (ks := 6 * d) (av := [.int (G.2.2.2.2.2 ((8 * q) + 1)), .int (G.2.2.2.2.2 ((8 * q) + 2)), .int (G.2.2.2.2.2 ((8 * q) + 3)), .int (G.2.2.2.2.2 ((8 * q) + 4)), .int (1)]) (st := []) hb2 (enM) rfl rfl (Nat.le_of_ble_eq_true rfl) z9)) ?_
          refine px (fun _ => pm_aload_n (pc := 182) d_Lw_law_182 rfl) ?_
          refine px (fun _ z9 => pm_Ev.more (kc := 0 + d) (ks := 0 + 6 * d) (by omega) (by omega) (k_Lw_law_183 (kc1 := 0) (ks1 := 0) (kc := d) (ks := 6 * d) (av := []) (st := []) lr2.2.1.1 (m_thrown hl lr2.2.1) rfl rfl (Nat.le_of_ble_eq_true rfl) z9)) ?_
          refine px (fun _ => pm_iload (pc := 186) d_Lw_law_186 rfl) ?_
          refine pxb (fun _ => pm_icmp_eq (pc := 188) (tgt := 193) d_Lw_law_188 (by decide)) (fun c_7 => ?_) (fun c_7 => absurd (by rw [t5]) c_7)
          refine px (fun _ => pm_goto (tgt := 728) (pc := 193) d_Lw_law_193 (by decide)) ?_
          refine px (fun _ => pm_iinc (x := nI (8 * q)) (v := nI ((8 * q) + 8)) (lv' := [(5, .int (nI ((8 * q) + 8))), (6, .int (nI k)), (0, .retAddr 0), (1, .ref (0)), (2, .ref (95)), (3, .ref (110)), (4, .ref (111))]) (pc := 728) d_Lw_law_728 rfl (nI_add _ 8) (by decide) rfl) ?_
          refine px (fun _ => pm_goto (tgt := 28) (pc := 731) d_Lw_law_731 (by decide)) ?_
          refine pxd [0, 2, 3, 4, 5, 6] rfl ?_
          rw [show 8 * q + 8 = 8 * (q + 1) by omega]
          exact pxmk (ih (q + 1) _ _ _ lr2 (by omega) (by omega))
      · skip
        have tx_45 : ((G.2.2.2.2.2 (8 * q) &&& 15) : Int32).toInt = 1 := by rw [hv]; rfl
        refine px (fun _ => pm_tabIn (off := 151) (tgt := 196) (pc := 45) d_Lw_law_45 (by rw [tx_45]; decide) (by rw [tx_45]; decide) (by rw [tx_45]; rfl) (by decide)) ?_
        refine px (fun _ => pm_aload_n (pc := 196) d_Lw_law_196 rfl) ?_
        refine px (fun _ => pm_aload_nO (pc := 197) d_Lw_law_197 rfl) ?_
        refine px (fun _ => pm_iload (pc := 198) d_Lw_law_198 rfl) ?_
        refine px (fun _ => pm_iconst (v := 1) (pc := 200) d_Lw_law_200 rfl) ?_
        refine px (fun _ => pm_iaddN (a := (8 * q)) (b := 1) (pc := 201) d_Lw_law_201) ?_
        refine px (fun _ => pm_sld (j := (8 * q) + 1) (pc := 202) d_Lw_law_202 (rfl) (by omega) hL31) ?_
        refine px (fun _ => pm_aload_nO (pc := 203) d_Lw_law_203 rfl) ?_
        refine px (fun _ => pm_iload (pc := 204) d_Lw_law_204 rfl) ?_
        refine px (fun _ => pm_iconst (v := 2) (pc := 206) d_Lw_law_206 rfl) ?_
        refine px (fun _ => pm_iaddN (a := (8 * q)) (b := 2) (pc := 207) d_Lw_law_207) ?_
        refine px (fun _ => pm_sld (j := (8 * q) + 2) (pc := 208) d_Lw_law_208 (rfl) (by omega) hL31) ?_
        refine px (fun _ => pm_aload_nO (pc := 209) d_Lw_law_209 rfl) ?_
        refine px (fun _ => pm_iload (pc := 210) d_Lw_law_210 rfl) ?_
        refine px (fun _ => pm_iconst (v := 3) (pc := 212) d_Lw_law_212 rfl) ?_
        refine px (fun _ => pm_iaddN (a := (8 * q)) (b := 3) (pc := 213) d_Lw_law_213) ?_
        refine px (fun _ => pm_sld (j := (8 * q) + 3) (pc := 214) d_Lw_law_214 (rfl) (by omega) hL31) ?_
        refine px (fun _ => pm_aload_nO (pc := 215) d_Lw_law_215 rfl) ?_
        refine px (fun _ => pm_iload (pc := 216) d_Lw_law_216 rfl) ?_
        refine px (fun _ => pm_iconst (v := 4) (pc := 218) d_Lw_law_218 rfl) ?_
        refine px (fun _ => pm_iaddN (a := (8 * q)) (b := 4) (pc := 219) d_Lw_law_219) ?_
        refine px (fun _ => pm_sld (j := (8 * q) + 4) (pc := 220) d_Lw_law_220 (rfl) (by omega) hL31) ?_
        refine px (fun _ => pm_i2d (pc := 221) d_Lw_law_221) ?_
        refine px (fun _ => pm_ldc2d (pc := 222) d_Lw_law_222 tw_832) ?_
        refine px (fun _ => pm_dmul (pc := 225) d_Lw_law_225 (l_dmul _)) ?_
        obtain ⟨k, h1, h2, S2, T2, fs2, enL, hb2, enM, lr2, t5⟩ := L_set (l := l) (G := G) hl lr
        refine px (fun _ z9 => pm_Ev.more (kc := 1 + d) (ks := 6 + 6 * d) (by omega) (by omega) (k_Lw_law_226 (kc1 := 1) (ks1 := 6) (kc := d) (ks := 6 * d) (av := [.ref (0), .int (G.2.2.2.2.2 ((8 * q) + 1)), .int (G.2.2.2.2.2 ((8 * q) + 2)), .int (G.2.2.2.2.2 ((8 * q) + 3)), .double ((FP.dmul (FP.i2d (G.2.2.2.2.2 ((8 * q) + 4))) 4593671619917905920))]) (st := []) (enL) rfl rfl (Nat.le_of_ble_eq_true rfl) z9)) ?_
        refine px (fun _ => pm_istore (lv' := [(6, .int (nI k)), (5, .int (nI (8 * q))), (0, .retAddr 0), (1, .ref (0)), (2, .ref (95)), (3, .ref (110)), (4, .ref (111))]) (pc := 229) d_Lw_law_229 (by decide) rfl) ?_
        refine px (fun _ => pm_aload_n (pc := 231) d_Lw_law_231 rfl) ?_
        refine px (fun _ => pm_aload_nO (pc := 232) d_Lw_law_232 rfl) ?_
        refine px (fun _ => pm_iload (pc := 233) d_Lw_law_233 rfl) ?_
        refine px (fun _ => pm_iconst (v := 1) (pc := 235) d_Lw_law_235 rfl) ?_
        refine px (fun _ => pm_iaddN (a := (8 * q)) (b := 1) (pc := 236) d_Lw_law_236) ?_
        refine px (fun _ => pm_sld (j := (8 * q) + 1) (pc := 237) d_Lw_law_237 (rfl) (by omega) hL31) ?_
        refine px (fun _ => pm_aload_nO (pc := 238) d_Lw_law_238 rfl) ?_
        refine px (fun _ => pm_iload (pc := 239) d_Lw_law_239 rfl) ?_
        refine px (fun _ => pm_iconst (v := 2) (pc := 241) d_Lw_law_241 rfl) ?_
        refine px (fun _ => pm_iaddN (a := (8 * q)) (b := 2) (pc := 242) d_Lw_law_242) ?_
        refine px (fun _ => pm_sld (j := (8 * q) + 2) (pc := 243) d_Lw_law_243 (rfl) (by omega) hL31) ?_
        refine px (fun _ => pm_aload_nO (pc := 244) d_Lw_law_244 rfl) ?_
        refine px (fun _ => pm_iload (pc := 245) d_Lw_law_245 rfl) ?_
        refine px (fun _ => pm_iconst (v := 3) (pc := 247) d_Lw_law_247 rfl) ?_
        refine px (fun _ => pm_iaddN (a := (8 * q)) (b := 3) (pc := 248) d_Lw_law_248) ?_
        refine px (fun _ => pm_sld (j := (8 * q) + 3) (pc := 249) d_Lw_law_249 (rfl) (by omega) hL31) ?_
        refine px (fun _ => pm_aload_nO (pc := 250) d_Lw_law_250 rfl) ?_
        refine px (fun _ => pm_iload (pc := 251) d_Lw_law_251 rfl) ?_
        refine px (fun _ => pm_iconst (v := 4) (pc := 253) d_Lw_law_253 rfl) ?_
        refine px (fun _ => pm_iaddN (a := (8 * q)) (b := 4) (pc := 254) d_Lw_law_254) ?_
        refine px (fun _ => pm_sld (j := (8 * q) + 4) (pc := 255) d_Lw_law_255 (rfl) (by omega) hL31) ?_
        refine px (fun _ => pm_i2d (pc := 256) d_Lw_law_256) ?_
        refine px (fun _ => pm_ldc2d (pc := 257) d_Lw_law_257 tw_832) ?_
        refine px (fun _ => pm_dmul (pc := 260) d_Lw_law_260 (l_dmul _)) ?_
        refine px (fun _ z9 => pm_Ev.more (kc := 0 + d) (ks := 0 + 6 * d) (by omega) (by omega) (k_Lw_law_261 (kc1 := 0) (ks1 := 0) (kc := d) (ks := 6 * d) (av := [.int (G.2.2.2.2.2 ((8 * q) + 1)), .int (G.2.2.2.2.2 ((8 * q) + 2)), .int (G.2.2.2.2.2 ((8 * q) + 3)), .double ((FP.dmul (FP.i2d (G.2.2.2.2.2 ((8 * q) + 4))) 4593671619917905920))]) (st := []) hb2 (enM) rfl rfl (Nat.le_of_ble_eq_true rfl) z9)) ?_
        refine px (fun _ => pm_aload_n (pc := 264) d_Lw_law_264 rfl) ?_
        refine px (fun _ z9 => pm_Ev.more (kc := 0 + d) (ks := 0 + 6 * d) (by omega) (by omega) (k_Lw_law_265 (kc1 := 0) (ks1 := 0) (kc := d) (ks := 6 * d) (av := []) (st := []) lr2.2.1.1 (m_thrown hl lr2.2.1) rfl rfl (Nat.le_of_ble_eq_true rfl) z9)) ?_
        refine px (fun _ => pm_iload (pc := 268) d_Lw_law_268 rfl) ?_
        refine pxb (fun _ => pm_icmp_eq (pc := 270) (tgt := 275) d_Lw_law_270 (by decide)) (fun c_8 => ?_) (fun c_8 => absurd (by rw [t5]) c_8)
        refine px (fun _ => pm_goto (tgt := 728) (pc := 275) d_Lw_law_275 (by decide)) ?_
        refine px (fun _ => pm_iinc (x := nI (8 * q)) (v := nI ((8 * q) + 8)) (lv' := [(5, .int (nI ((8 * q) + 8))), (6, .int (nI k)), (0, .retAddr 0), (1, .ref (0)), (2, .ref (95)), (3, .ref (110)), (4, .ref (111))]) (pc := 728) d_Lw_law_728 rfl (nI_add _ 8) (by decide) rfl) ?_
        refine px (fun _ => pm_goto (tgt := 28) (pc := 731) d_Lw_law_731 (by decide)) ?_
        refine pxd [0, 2, 3, 4, 5, 6] rfl ?_
        rw [show 8 * q + 8 = 8 * (q + 1) by omega]
        exact pxmk (ih (q + 1) _ _ _ lr2 (by omega) (by omega))
      · skip
        have tx_45 : ((G.2.2.2.2.2 (8 * q) &&& 15) : Int32).toInt = 2 := by rw [hv]; rfl
        refine px (fun _ => pm_tabIn (off := 233) (tgt := 278) (pc := 45) d_Lw_law_45 (by rw [tx_45]; decide) (by rw [tx_45]; decide) (by rw [tx_45]; rfl) (by decide)) ?_
        refine px (fun _ => pm_aload_n (pc := 278) d_Lw_law_278 rfl) ?_
        refine px (fun _ => pm_aload_nO (pc := 279) d_Lw_law_279 rfl) ?_
        refine px (fun _ => pm_iload (pc := 280) d_Lw_law_280 rfl) ?_
        refine px (fun _ => pm_iconst (v := 1) (pc := 282) d_Lw_law_282 rfl) ?_
        refine px (fun _ => pm_iaddN (a := (8 * q)) (b := 1) (pc := 283) d_Lw_law_283) ?_
        refine px (fun _ => pm_sld (j := (8 * q) + 1) (pc := 284) d_Lw_law_284 (rfl) (by omega) hL31) ?_
        refine px (fun _ => pm_aload_nO (pc := 285) d_Lw_law_285 rfl) ?_
        refine px (fun _ => pm_iload (pc := 286) d_Lw_law_286 rfl) ?_
        refine px (fun _ => pm_iconst (v := 2) (pc := 288) d_Lw_law_288 rfl) ?_
        refine px (fun _ => pm_iaddN (a := (8 * q)) (b := 2) (pc := 289) d_Lw_law_289) ?_
        refine px (fun _ => pm_sld (j := (8 * q) + 2) (pc := 290) d_Lw_law_290 (rfl) (by omega) hL31) ?_
        refine px (fun _ => pm_aload_nO (pc := 291) d_Lw_law_291 rfl) ?_
        refine px (fun _ => pm_iload (pc := 292) d_Lw_law_292 rfl) ?_
        refine px (fun _ => pm_iconst (v := 3) (pc := 294) d_Lw_law_294 rfl) ?_
        refine px (fun _ => pm_iaddN (a := (8 * q)) (b := 3) (pc := 295) d_Lw_law_295) ?_
        refine px (fun _ => pm_sld (j := (8 * q) + 3) (pc := 296) d_Lw_law_296 (rfl) (by omega) hL31) ?_
        refine px (fun _ => pm_aload_nO (pc := 297) d_Lw_law_297 rfl) ?_
        refine px (fun _ => pm_iload (pc := 298) d_Lw_law_298 rfl) ?_
        refine px (fun _ => pm_iconst (v := 4) (pc := 300) d_Lw_law_300 rfl) ?_
        refine px (fun _ => pm_iaddN (a := (8 * q)) (b := 4) (pc := 301) d_Lw_law_301) ?_
        refine px (fun _ => pm_sld (j := (8 * q) + 4) (pc := 302) d_Lw_law_302 (rfl) (by omega) hL31) ?_
        refine px (fun _ => pm_aload_nO (pc := 303) d_Lw_law_303 rfl) ?_
        refine px (fun _ => pm_iload (pc := 304) d_Lw_law_304 rfl) ?_
        refine px (fun _ => pm_iconst (v := 5) (pc := 306) d_Lw_law_306 rfl) ?_
        refine px (fun _ => pm_iaddN (a := (8 * q)) (b := 5) (pc := 307) d_Lw_law_307) ?_
        refine px (fun _ => pm_sld (j := (8 * q) + 5) (pc := 308) d_Lw_law_308 (rfl) (by omega) hL31) ?_
        refine px (fun _ => pm_aload_nO (pc := 309) d_Lw_law_309 rfl) ?_
        refine px (fun _ => pm_iload (pc := 310) d_Lw_law_310 rfl) ?_
        refine px (fun _ => pm_bipush (v := 6) (pc := 312) d_Lw_law_312 rfl) ?_
        refine px (fun _ => pm_iaddN (a := (8 * q)) (b := 6) (pc := 314) d_Lw_law_314) ?_
        refine px (fun _ => pm_sld (j := (8 * q) + 6) (pc := 315) d_Lw_law_315 (rfl) (by omega) hL31) ?_
        refine px (fun _ => pm_aload_nO (pc := 316) d_Lw_law_316 rfl) ?_
        refine px (fun _ => pm_iload (pc := 317) d_Lw_law_317 rfl) ?_
        refine px (fun _ => pm_bipush (v := 7) (pc := 319) d_Lw_law_319 rfl) ?_
        refine px (fun _ => pm_iaddN (a := (8 * q)) (b := 7) (pc := 321) d_Lw_law_321) ?_
        refine px (fun _ => pm_sld (j := (8 * q) + 7) (pc := 322) d_Lw_law_322 (rfl) (by omega) hL31) ?_
        refine px (fun _ => pm_aload_n (pc := 323) d_Lw_law_323 rfl) ?_
        obtain ⟨k, b, h1, h2, S2, T2, fs2, g2, enL, hb2, enM, lr2, t5, k4, e2, hb⟩ := L_node (l := l) (G := G) hl lr
        refine px (fun _ z9 => pm_Ev.more (kc := 1 + d) (ks := 6 + 6 * d) (by omega) (by omega) (k_Lw_law_324 (kc1 := 1) (ks1 := 6) (kc := d) (ks := 6 * d) (av := [.ref (0), .int (G.2.2.2.2.2 ((8 * q) + 1)), .int (G.2.2.2.2.2 ((8 * q) + 2)), .int (G.2.2.2.2.2 ((8 * q) + 3)), .int (G.2.2.2.2.2 ((8 * q) + 4)), .int (G.2.2.2.2.2 ((8 * q) + 5)), .int (G.2.2.2.2.2 ((8 * q) + 6)), .int (G.2.2.2.2.2 ((8 * q) + 7)), .ref (110)]) (st := []) (enL) rfl rfl (Nat.le_of_ble_eq_true rfl) z9)) ?_
        refine px (fun _ => pm_istore (lv' := [(6, .int (nI k)), (5, .int (nI (8 * q))), (0, .retAddr 0), (1, .ref (0)), (2, .ref (95)), (3, .ref (110)), (4, .ref (111))]) (pc := 327) d_Lw_law_327 (by decide) rfl) ?_
        refine px (fun _ => pm_aload_n (pc := 329) d_Lw_law_329 rfl) ?_
        refine px (fun _ => pm_aload_nO (pc := 330) d_Lw_law_330 rfl) ?_
        refine px (fun _ => pm_iload (pc := 331) d_Lw_law_331 rfl) ?_
        refine px (fun _ => pm_iconst (v := 1) (pc := 333) d_Lw_law_333 rfl) ?_
        refine px (fun _ => pm_iaddN (a := (8 * q)) (b := 1) (pc := 334) d_Lw_law_334) ?_
        refine px (fun _ => pm_sld (j := (8 * q) + 1) (pc := 335) d_Lw_law_335 (rfl) (by omega) hL31) ?_
        refine px (fun _ => pm_aload_nO (pc := 336) d_Lw_law_336 rfl) ?_
        refine px (fun _ => pm_iload (pc := 337) d_Lw_law_337 rfl) ?_
        refine px (fun _ => pm_iconst (v := 2) (pc := 339) d_Lw_law_339 rfl) ?_
        refine px (fun _ => pm_iaddN (a := (8 * q)) (b := 2) (pc := 340) d_Lw_law_340) ?_
        refine px (fun _ => pm_sld (j := (8 * q) + 2) (pc := 341) d_Lw_law_341 (rfl) (by omega) hL31) ?_
        refine px (fun _ => pm_aload_nO (pc := 342) d_Lw_law_342 rfl) ?_
        refine px (fun _ => pm_iload (pc := 343) d_Lw_law_343 rfl) ?_
        refine px (fun _ => pm_iconst (v := 3) (pc := 345) d_Lw_law_345 rfl) ?_
        refine px (fun _ => pm_iaddN (a := (8 * q)) (b := 3) (pc := 346) d_Lw_law_346) ?_
        refine px (fun _ => pm_sld (j := (8 * q) + 3) (pc := 347) d_Lw_law_347 (rfl) (by omega) hL31) ?_
        refine px (fun _ => pm_aload_nO (pc := 348) d_Lw_law_348 rfl) ?_
        refine px (fun _ => pm_iload (pc := 349) d_Lw_law_349 rfl) ?_
        refine px (fun _ => pm_iconst (v := 4) (pc := 351) d_Lw_law_351 rfl) ?_
        refine px (fun _ => pm_iaddN (a := (8 * q)) (b := 4) (pc := 352) d_Lw_law_352) ?_
        refine px (fun _ => pm_sld (j := (8 * q) + 4) (pc := 353) d_Lw_law_353 (rfl) (by omega) hL31) ?_
        refine px (fun _ => pm_aload_nO (pc := 354) d_Lw_law_354 rfl) ?_
        refine px (fun _ => pm_iload (pc := 355) d_Lw_law_355 rfl) ?_
        refine px (fun _ => pm_iconst (v := 5) (pc := 357) d_Lw_law_357 rfl) ?_
        refine px (fun _ => pm_iaddN (a := (8 * q)) (b := 5) (pc := 358) d_Lw_law_358) ?_
        refine px (fun _ => pm_sld (j := (8 * q) + 5) (pc := 359) d_Lw_law_359 (rfl) (by omega) hL31) ?_
        refine px (fun _ => pm_aload_nO (pc := 360) d_Lw_law_360 rfl) ?_
        refine px (fun _ => pm_iload (pc := 361) d_Lw_law_361 rfl) ?_
        refine px (fun _ => pm_bipush (v := 6) (pc := 363) d_Lw_law_363 rfl) ?_
        refine px (fun _ => pm_iaddN (a := (8 * q)) (b := 6) (pc := 365) d_Lw_law_365) ?_
        refine px (fun _ => pm_sld (j := (8 * q) + 6) (pc := 366) d_Lw_law_366 (rfl) (by omega) hL31) ?_
        refine px (fun _ => pm_aload_nO (pc := 367) d_Lw_law_367 rfl) ?_
        refine px (fun _ => pm_iload (pc := 368) d_Lw_law_368 rfl) ?_
        refine px (fun _ => pm_bipush (v := 7) (pc := 370) d_Lw_law_370 rfl) ?_
        refine px (fun _ => pm_iaddN (a := (8 * q)) (b := 7) (pc := 372) d_Lw_law_372) ?_
        refine px (fun _ => pm_sld (j := (8 * q) + 7) (pc := 373) d_Lw_law_373 (rfl) (by omega) hL31) ?_
        refine px (fun _ z9 => pm_Ev.more (kc := 0 + d) (ks := 0 + 6 * d) (by omega) (by omega) (k_Lw_law_374 (kc1 := 0) (ks1 := 0) (kc := d) (ks := 6 * d) (av := [.int (G.2.2.2.2.2 ((8 * q) + 1)), .int (G.2.2.2.2.2 ((8 * q) + 2)), .int (G.2.2.2.2.2 ((8 * q) + 3)), .int (G.2.2.2.2.2 ((8 * q) + 4)), .int (G.2.2.2.2.2 ((8 * q) + 5)), .int (G.2.2.2.2.2 ((8 * q) + 6)), .int (G.2.2.2.2.2 ((8 * q) + 7))]) (st := []) hb2 (enM) rfl rfl (Nat.le_of_ble_eq_true rfl) z9)) ?_
        refine px (fun _ => pm_istore (lv' := [(7, .int (b)), (6, .int (nI k)), (5, .int (nI (8 * q))), (0, .retAddr 0), (1, .ref (0)), (2, .ref (95)), (3, .ref (110)), (4, .ref (111))]) (pc := 377) d_Lw_law_377 (by decide) rfl) ?_
        refine px (fun _ => pm_aload_n (pc := 379) d_Lw_law_379 rfl) ?_
        refine px (fun _ z9 => pm_Ev.more (kc := 0 + d) (ks := 0 + 6 * d) (by omega) (by omega) (k_Lw_law_380 (kc1 := 0) (ks1 := 0) (kc := d) (ks := 6 * d) (av := []) (st := []) lr2.2.1.1 (m_thrown hl lr2.2.1) rfl rfl (Nat.le_of_ble_eq_true rfl) z9)) ?_
        refine px (fun _ => pm_iload (pc := 383) d_Lw_law_383 rfl) ?_
        refine pxb (fun _ => pm_icmp_eq (pc := 385) (tgt := 390) d_Lw_law_385 (by decide)) (fun c_9 => ?_) (fun c_9 => absurd (by rw [t5]) c_9)
        refine px (fun _ => pm_iload (pc := 390) d_Lw_law_390 rfl) ?_
        by_cases k0 : k = 0
        · skip
          refine pxn (fun _ => pm_if_ne (pc := 392) (tgt := 407) d_Lw_law_392 (by decide)) (fun c_10 => absurd (by rw [k0]; rfl) c_10) (fun c_10 => ?_)
          refine px (fun _ => pm_aload_n (pc := 395) d_Lw_law_395 rfl) ?_
          refine px (fun _ => pm_iconst (v := 0) (pc := 396) d_Lw_law_396 rfl) ?_
          refine px (fun _ => pm_lald (j := 0) (pc := 397) d_Lw_law_397 e2 (rfl) (by decide) (by decide)) ?_
          refine px (fun _ => pm_iload (pc := 398) d_Lw_law_398 rfl) ?_
          refine px (fun _ => pm_i2l (pc := 400) d_Lw_law_400) ?_
          refine px (fun _ => pm_lcmp (pc := 401) d_Lw_law_401) ?_
          refine pxb (fun _ => pm_if_eq (pc := 402) (tgt := 407) d_Lw_law_402 (by decide)) (fun c_11 => ?_) (fun c_11 => absurd (by rw [show g2 0 = b.toInt64 from hb k0]; exact lg_self _) c_11)
          refine px (fun _ => pm_goto (tgt := 728) (pc := 407) d_Lw_law_407 (by decide)) ?_
          refine px (fun _ => pm_iinc (x := nI (8 * q)) (v := nI ((8 * q) + 8)) (lv' := [(5, .int (nI ((8 * q) + 8))), (7, .int (b)), (6, .int (nI k)), (0, .retAddr 0), (1, .ref (0)), (2, .ref (95)), (3, .ref (110)), (4, .ref (111))]) (pc := 728) d_Lw_law_728 rfl (nI_add _ 8) (by decide) rfl) ?_
          refine px (fun _ => pm_goto (tgt := 28) (pc := 731) d_Lw_law_731 (by decide)) ?_
          refine pxd [0, 3, 4, 5, 6, 7] rfl ?_
          rw [show 8 * q + 8 = 8 * (q + 1) by omega]
          exact pxmk (ih (q + 1) _ _ _ lr2 (by omega) (by omega))
        · skip
          refine pxn (fun _ => pm_if_ne (pc := 392) (tgt := 407) d_Lw_law_392 (by decide)) (fun c_12 => ?_) (fun c_12 => absurd c_12 (nI_ne0 (by omega) (by omega)))
          refine px (fun _ => pm_goto (tgt := 728) (pc := 407) d_Lw_law_407 (by decide)) ?_
          refine px (fun _ => pm_iinc (x := nI (8 * q)) (v := nI ((8 * q) + 8)) (lv' := [(5, .int (nI ((8 * q) + 8))), (7, .int (b)), (6, .int (nI k)), (0, .retAddr 0), (1, .ref (0)), (2, .ref (95)), (3, .ref (110)), (4, .ref (111))]) (pc := 728) d_Lw_law_728 rfl (nI_add _ 8) (by decide) rfl) ?_
          refine px (fun _ => pm_goto (tgt := 28) (pc := 731) d_Lw_law_731 (by decide)) ?_
          refine pxd [0, 3, 4, 5, 6, 7] rfl ?_
          rw [show 8 * q + 8 = 8 * (q + 1) by omega]
          exact pxmk (ih (q + 1) _ _ _ lr2 (by omega) (by omega))
      · skip
        have tx_45 : ((G.2.2.2.2.2 (8 * q) &&& 15) : Int32).toInt = 3 := by rw [hv]; rfl
        refine px (fun _ => pm_tabIn (off := 365) (tgt := 410) (pc := 45) d_Lw_law_45 (by rw [tx_45]; decide) (by rw [tx_45]; decide) (by rw [tx_45]; rfl) (by decide)) ?_
        refine px (fun _ => pm_aload_n (pc := 410) d_Lw_law_410 rfl) ?_
        obtain ⟨k, h1, h2, S2, T2, fs2, enL, hb2, enM, lr2, t5⟩ := L_undo (l := l) (G := G) hl lr
        refine px (fun _ z9 => pm_Ev.more (kc := 1 + d) (ks := 6 + 6 * d) (by omega) (by omega) (k_Lw_law_411 (kc1 := 1) (ks1 := 6) (kc := d) (ks := 6 * d) (av := [.ref (0)]) (st := []) (enL) rfl rfl (Nat.le_of_ble_eq_true rfl) z9)) ?_
        refine px (fun _ => pm_istore (lv' := [(6, .int (nI k)), (5, .int (nI (8 * q))), (0, .retAddr 0), (1, .ref (0)), (2, .ref (95)), (3, .ref (110)), (4, .ref (111))]) (pc := 414) d_Lw_law_414 (by decide) rfl) ?_
        refine px (fun _ => pm_aload_n (pc := 416) d_Lw_law_416 rfl) ?_
        refine px (fun _ z9 => pm_Ev.more (kc := 0 + d) (ks := 0 + 6 * d) (by omega) (by omega) (k_Lw_law_417 (kc1 := 0) (ks1 := 0) (kc := d) (ks := 6 * d) (av := []) (st := []) hb2 (enM) rfl rfl (Nat.le_of_ble_eq_true rfl) z9)) ?_
        refine px (fun _ => pm_aload_n (pc := 420) d_Lw_law_420 rfl) ?_
        refine px (fun _ z9 => pm_Ev.more (kc := 0 + d) (ks := 0 + 6 * d) (by omega) (by omega) (k_Lw_law_421 (kc1 := 0) (ks1 := 0) (kc := d) (ks := 6 * d) (av := []) (st := []) lr2.2.1.1 (m_thrown hl lr2.2.1) rfl rfl (Nat.le_of_ble_eq_true rfl) z9)) ?_
        refine px (fun _ => pm_iload (pc := 424) d_Lw_law_424 rfl) ?_
        refine pxb (fun _ => pm_icmp_eq (pc := 426) (tgt := 431) d_Lw_law_426 (by decide)) (fun c_13 => ?_) (fun c_13 => absurd (by rw [t5]) c_13)
        refine px (fun _ => pm_goto (tgt := 728) (pc := 431) d_Lw_law_431 (by decide)) ?_
        refine px (fun _ => pm_iinc (x := nI (8 * q)) (v := nI ((8 * q) + 8)) (lv' := [(5, .int (nI ((8 * q) + 8))), (6, .int (nI k)), (0, .retAddr 0), (1, .ref (0)), (2, .ref (95)), (3, .ref (110)), (4, .ref (111))]) (pc := 728) d_Lw_law_728 rfl (nI_add _ 8) (by decide) rfl) ?_
        refine px (fun _ => pm_goto (tgt := 28) (pc := 731) d_Lw_law_731 (by decide)) ?_
        refine pxd [0, 2, 3, 4, 5, 6] rfl ?_
        rw [show 8 * q + 8 = 8 * (q + 1) by omega]
        exact pxmk (ih (q + 1) _ _ _ lr2 (by omega) (by omega))
      · skip
        have tx_45 : ((G.2.2.2.2.2 (8 * q) &&& 15) : Int32).toInt = 4 := by rw [hv]; rfl
        refine px (fun _ => pm_tabIn (off := 389) (tgt := 434) (pc := 45) d_Lw_law_45 (by rw [tx_45]; decide) (by rw [tx_45]; decide) (by rw [tx_45]; rfl) (by decide)) ?_
        refine px (fun _ => pm_aload_n (pc := 434) d_Lw_law_434 rfl) ?_
        refine px (fun _ => pm_aload_n (pc := 435) d_Lw_law_435 rfl) ?_
        obtain ⟨k, b, h1, h2, S2, T2, fs2, g2, enL, hb2, enM, lr2, t5, k4, e2, hb⟩ := L_prepare (l := l) (G := G) hl lr
        refine px (fun _ z9 => pm_Ev.more (kc := 1 + d) (ks := 6 + 6 * d) (by omega) (by omega) (k_Lw_law_436 (kc1 := 1) (ks1 := 6) (kc := d) (ks := 6 * d) (av := [.ref (0), .ref (110)]) (st := []) (enL) rfl rfl (Nat.le_of_ble_eq_true rfl) z9)) ?_
        refine px (fun _ => pm_istore (lv' := [(6, .int (nI k)), (5, .int (nI (8 * q))), (0, .retAddr 0), (1, .ref (0)), (2, .ref (95)), (3, .ref (110)), (4, .ref (111))]) (pc := 439) d_Lw_law_439 (by decide) rfl) ?_
        refine px (fun _ => pm_aload_n (pc := 441) d_Lw_law_441 rfl) ?_
        refine px (fun _ z9 => pm_Ev.more (kc := 0 + d) (ks := 0 + 6 * d) (by omega) (by omega) (k_Lw_law_442 (kc1 := 0) (ks1 := 0) (kc := d) (ks := 6 * d) (av := []) (st := []) hb2 (enM) rfl rfl (Nat.le_of_ble_eq_true rfl) z9)) ?_
        refine px (fun _ => pm_istore (lv' := [(7, .int (b)), (6, .int (nI k)), (5, .int (nI (8 * q))), (0, .retAddr 0), (1, .ref (0)), (2, .ref (95)), (3, .ref (110)), (4, .ref (111))]) (pc := 445) d_Lw_law_445 (by decide) rfl) ?_
        refine px (fun _ => pm_aload_n (pc := 447) d_Lw_law_447 rfl) ?_
        refine px (fun _ z9 => pm_Ev.more (kc := 0 + d) (ks := 0 + 6 * d) (by omega) (by omega) (k_Lw_law_448 (kc1 := 0) (ks1 := 0) (kc := d) (ks := 6 * d) (av := []) (st := []) lr2.2.1.1 (m_thrown hl lr2.2.1) rfl rfl (Nat.le_of_ble_eq_true rfl) z9)) ?_
        refine px (fun _ => pm_iload (pc := 451) d_Lw_law_451 rfl) ?_
        refine pxb (fun _ => pm_icmp_eq (pc := 453) (tgt := 458) d_Lw_law_453 (by decide)) (fun c_14 => ?_) (fun c_14 => absurd (by rw [t5]) c_14)
        refine px (fun _ => pm_iload (pc := 458) d_Lw_law_458 rfl) ?_
        by_cases k0 : k = 0
        · skip
          refine pxn (fun _ => pm_if_ne (pc := 460) (tgt := 475) d_Lw_law_460 (by decide)) (fun c_15 => absurd (by rw [k0]; rfl) c_15) (fun c_15 => ?_)
          refine px (fun _ => pm_aload_n (pc := 463) d_Lw_law_463 rfl) ?_
          refine px (fun _ => pm_iconst (v := 0) (pc := 464) d_Lw_law_464 rfl) ?_
          refine px (fun _ => pm_lald (j := 0) (pc := 465) d_Lw_law_465 e2 (rfl) (by decide) (by decide)) ?_
          refine px (fun _ => pm_iload (pc := 466) d_Lw_law_466 rfl) ?_
          refine px (fun _ => pm_i2l (pc := 468) d_Lw_law_468) ?_
          refine px (fun _ => pm_lcmp (pc := 469) d_Lw_law_469) ?_
          refine pxb (fun _ => pm_if_eq (pc := 470) (tgt := 475) d_Lw_law_470 (by decide)) (fun c_16 => ?_) (fun c_16 => absurd (by rw [show g2 0 = b.toInt64 from hb k0]; exact lg_self _) c_16)
          refine px (fun _ => pm_goto (tgt := 728) (pc := 475) d_Lw_law_475 (by decide)) ?_
          refine px (fun _ => pm_iinc (x := nI (8 * q)) (v := nI ((8 * q) + 8)) (lv' := [(5, .int (nI ((8 * q) + 8))), (7, .int (b)), (6, .int (nI k)), (0, .retAddr 0), (1, .ref (0)), (2, .ref (95)), (3, .ref (110)), (4, .ref (111))]) (pc := 728) d_Lw_law_728 rfl (nI_add _ 8) (by decide) rfl) ?_
          refine px (fun _ => pm_goto (tgt := 28) (pc := 731) d_Lw_law_731 (by decide)) ?_
          refine pxd [0, 3, 4, 5, 6, 7] rfl ?_
          rw [show 8 * q + 8 = 8 * (q + 1) by omega]
          exact pxmk (ih (q + 1) _ _ _ lr2 (by omega) (by omega))
        · skip
          refine pxn (fun _ => pm_if_ne (pc := 460) (tgt := 475) d_Lw_law_460 (by decide)) (fun c_17 => ?_) (fun c_17 => absurd c_17 (nI_ne0 (by omega) (by omega)))
          refine px (fun _ => pm_goto (tgt := 728) (pc := 475) d_Lw_law_475 (by decide)) ?_
          refine px (fun _ => pm_iinc (x := nI (8 * q)) (v := nI ((8 * q) + 8)) (lv' := [(5, .int (nI ((8 * q) + 8))), (7, .int (b)), (6, .int (nI k)), (0, .retAddr 0), (1, .ref (0)), (2, .ref (95)), (3, .ref (110)), (4, .ref (111))]) (pc := 728) d_Lw_law_728 rfl (nI_add _ 8) (by decide) rfl) ?_
          refine px (fun _ => pm_goto (tgt := 28) (pc := 731) d_Lw_law_731 (by decide)) ?_
          refine pxd [0, 3, 4, 5, 6, 7] rfl ?_
          rw [show 8 * q + 8 = 8 * (q + 1) by omega]
          exact pxmk (ih (q + 1) _ _ _ lr2 (by omega) (by omega))
      · skip
        have tx_45 : ((G.2.2.2.2.2 (8 * q) &&& 15) : Int32).toInt = 5 := by rw [hv]; rfl
        refine px (fun _ => pm_tabIn (off := 433) (tgt := 478) (pc := 45) d_Lw_law_45 (by rw [tx_45]; decide) (by rw [tx_45]; decide) (by rw [tx_45]; rfl) (by decide)) ?_
        refine px (fun _ => pm_aload_n (pc := 478) d_Lw_law_478 rfl) ?_
        refine px (fun _ => pm_aload_nO (pc := 479) d_Lw_law_479 rfl) ?_
        refine px (fun _ => pm_iload (pc := 480) d_Lw_law_480 rfl) ?_
        refine px (fun _ => pm_iconst (v := 1) (pc := 482) d_Lw_law_482 rfl) ?_
        refine px (fun _ => pm_iaddN (a := (8 * q)) (b := 1) (pc := 483) d_Lw_law_483) ?_
        refine px (fun _ => pm_sld (j := (8 * q) + 1) (pc := 484) d_Lw_law_484 (rfl) (by omega) hL31) ?_
        refine px (fun _ => pm_aload_n (pc := 485) d_Lw_law_485 rfl) ?_
        obtain ⟨k, b, h1, h2, S2, T2, fs2, g2, enL, hb2, enM, lr2, t5, k4, e2, hb⟩ := L_run (l := l) (G := G) hl lr
        refine px (fun _ z9 => pm_Ev.more (kc := 1 + d) (ks := 6 + 6 * d) (by omega) (by omega) (k_Lw_law_486 (kc1 := 1) (ks1 := 6) (kc := d) (ks := 6 * d) (av := [.ref (0), .int (G.2.2.2.2.2 ((8 * q) + 1)), .ref (110)]) (st := []) (enL) rfl rfl (Nat.le_of_ble_eq_true rfl) z9)) ?_
        refine px (fun _ => pm_istore (lv' := [(6, .int (nI k)), (5, .int (nI (8 * q))), (0, .retAddr 0), (1, .ref (0)), (2, .ref (95)), (3, .ref (110)), (4, .ref (111))]) (pc := 489) d_Lw_law_489 (by decide) rfl) ?_
        refine px (fun _ => pm_aload_n (pc := 491) d_Lw_law_491 rfl) ?_
        refine px (fun _ => pm_aload_nO (pc := 492) d_Lw_law_492 rfl) ?_
        refine px (fun _ => pm_iload (pc := 493) d_Lw_law_493 rfl) ?_
        refine px (fun _ => pm_iconst (v := 1) (pc := 495) d_Lw_law_495 rfl) ?_
        refine px (fun _ => pm_iaddN (a := (8 * q)) (b := 1) (pc := 496) d_Lw_law_496) ?_
        refine px (fun _ => pm_sld (j := (8 * q) + 1) (pc := 497) d_Lw_law_497 (rfl) (by omega) hL31) ?_
        refine px (fun _ z9 => pm_Ev.more (kc := 0 + d) (ks := 0 + 6 * d) (by omega) (by omega) (k_Lw_law_498 (kc1 := 0) (ks1 := 0) (kc := d) (ks := 6 * d) (av := [.int (G.2.2.2.2.2 ((8 * q) + 1))]) (st := []) hb2 (enM) rfl rfl (Nat.le_of_ble_eq_true rfl) z9)) ?_
        refine px (fun _ => pm_istore (lv' := [(7, .int (b)), (6, .int (nI k)), (5, .int (nI (8 * q))), (0, .retAddr 0), (1, .ref (0)), (2, .ref (95)), (3, .ref (110)), (4, .ref (111))]) (pc := 501) d_Lw_law_501 (by decide) rfl) ?_
        refine px (fun _ => pm_aload_n (pc := 503) d_Lw_law_503 rfl) ?_
        refine px (fun _ z9 => pm_Ev.more (kc := 0 + d) (ks := 0 + 6 * d) (by omega) (by omega) (k_Lw_law_504 (kc1 := 0) (ks1 := 0) (kc := d) (ks := 6 * d) (av := []) (st := []) lr2.2.1.1 (m_thrown hl lr2.2.1) rfl rfl (Nat.le_of_ble_eq_true rfl) z9)) ?_
        refine px (fun _ => pm_iload (pc := 507) d_Lw_law_507 rfl) ?_
        refine pxb (fun _ => pm_icmp_eq (pc := 509) (tgt := 514) d_Lw_law_509 (by decide)) (fun c_18 => ?_) (fun c_18 => absurd (by rw [t5]) c_18)
        refine px (fun _ => pm_iload (pc := 514) d_Lw_law_514 rfl) ?_
        by_cases k0 : k = 0
        · skip
          refine pxn (fun _ => pm_if_ne (pc := 516) (tgt := 531) d_Lw_law_516 (by decide)) (fun c_19 => absurd (by rw [k0]; rfl) c_19) (fun c_19 => ?_)
          refine px (fun _ => pm_aload_n (pc := 519) d_Lw_law_519 rfl) ?_
          refine px (fun _ => pm_iconst (v := 0) (pc := 520) d_Lw_law_520 rfl) ?_
          refine px (fun _ => pm_lald (j := 0) (pc := 521) d_Lw_law_521 e2 (rfl) (by decide) (by decide)) ?_
          refine px (fun _ => pm_iload (pc := 522) d_Lw_law_522 rfl) ?_
          refine px (fun _ => pm_i2l (pc := 524) d_Lw_law_524) ?_
          refine px (fun _ => pm_lcmp (pc := 525) d_Lw_law_525) ?_
          refine pxb (fun _ => pm_if_eq (pc := 526) (tgt := 531) d_Lw_law_526 (by decide)) (fun c_20 => ?_) (fun c_20 => absurd (by rw [show g2 0 = b.toInt64 from hb k0]; exact lg_self _) c_20)
          refine px (fun _ => pm_goto (tgt := 728) (pc := 531) d_Lw_law_531 (by decide)) ?_
          refine px (fun _ => pm_iinc (x := nI (8 * q)) (v := nI ((8 * q) + 8)) (lv' := [(5, .int (nI ((8 * q) + 8))), (7, .int (b)), (6, .int (nI k)), (0, .retAddr 0), (1, .ref (0)), (2, .ref (95)), (3, .ref (110)), (4, .ref (111))]) (pc := 728) d_Lw_law_728 rfl (nI_add _ 8) (by decide) rfl) ?_
          refine px (fun _ => pm_goto (tgt := 28) (pc := 731) d_Lw_law_731 (by decide)) ?_
          refine pxd [0, 3, 4, 5, 6, 7] rfl ?_
          rw [show 8 * q + 8 = 8 * (q + 1) by omega]
          exact pxmk (ih (q + 1) _ _ _ lr2 (by omega) (by omega))
        · skip
          refine pxn (fun _ => pm_if_ne (pc := 516) (tgt := 531) d_Lw_law_516 (by decide)) (fun c_21 => ?_) (fun c_21 => absurd c_21 (nI_ne0 (by omega) (by omega)))
          refine px (fun _ => pm_goto (tgt := 728) (pc := 531) d_Lw_law_531 (by decide)) ?_
          refine px (fun _ => pm_iinc (x := nI (8 * q)) (v := nI ((8 * q) + 8)) (lv' := [(5, .int (nI ((8 * q) + 8))), (7, .int (b)), (6, .int (nI k)), (0, .retAddr 0), (1, .ref (0)), (2, .ref (95)), (3, .ref (110)), (4, .ref (111))]) (pc := 728) d_Lw_law_728 rfl (nI_add _ 8) (by decide) rfl) ?_
          refine px (fun _ => pm_goto (tgt := 28) (pc := 731) d_Lw_law_731 (by decide)) ?_
          refine pxd [0, 3, 4, 5, 6, 7] rfl ?_
          rw [show 8 * q + 8 = 8 * (q + 1) by omega]
          exact pxmk (ih (q + 1) _ _ _ lr2 (by omega) (by omega))
      · skip
        have tx_45 : ((G.2.2.2.2.2 (8 * q) &&& 15) : Int32).toInt = 6 := by rw [hv]; rfl
        refine px (fun _ => pm_tabIn (off := 489) (tgt := 534) (pc := 45) d_Lw_law_45 (by rw [tx_45]; decide) (by rw [tx_45]; decide) (by rw [tx_45]; rfl) (by decide)) ?_
        refine px (fun _ => pm_aload_n (pc := 534) d_Lw_law_534 rfl) ?_
        refine px (fun _ => pm_aload_nO (pc := 535) d_Lw_law_535 rfl) ?_
        refine px (fun _ => pm_iload (pc := 536) d_Lw_law_536 rfl) ?_
        refine px (fun _ => pm_iconst (v := 1) (pc := 538) d_Lw_law_538 rfl) ?_
        refine px (fun _ => pm_iaddN (a := (8 * q)) (b := 1) (pc := 539) d_Lw_law_539) ?_
        refine px (fun _ => pm_sld (j := (8 * q) + 1) (pc := 540) d_Lw_law_540 (rfl) (by omega) hL31) ?_
        refine px (fun _ => pm_aload_nO (pc := 541) d_Lw_law_541 rfl) ?_
        refine px (fun _ => pm_iload (pc := 542) d_Lw_law_542 rfl) ?_
        refine px (fun _ => pm_iconst (v := 2) (pc := 544) d_Lw_law_544 rfl) ?_
        refine px (fun _ => pm_iaddN (a := (8 * q)) (b := 2) (pc := 545) d_Lw_law_545) ?_
        refine px (fun _ => pm_sld (j := (8 * q) + 2) (pc := 546) d_Lw_law_546 (rfl) (by omega) hL31) ?_
        refine px (fun _ => pm_aload_nO (pc := 547) d_Lw_law_547 rfl) ?_
        refine px (fun _ => pm_iload (pc := 548) d_Lw_law_548 rfl) ?_
        refine px (fun _ => pm_iconst (v := 3) (pc := 550) d_Lw_law_550 rfl) ?_
        refine px (fun _ => pm_iaddN (a := (8 * q)) (b := 3) (pc := 551) d_Lw_law_551) ?_
        refine px (fun _ => pm_sld (j := (8 * q) + 3) (pc := 552) d_Lw_law_552 (rfl) (by omega) hL31) ?_
        refine px (fun _ => pm_aload (pc := 553) d_Lw_law_553 rfl) ?_
        obtain ⟨k, b, h1, h2, S2, T2, fs2, g2, enL, hb2, enM, lr2, t5, k4, e2, hb⟩ := L_get (l := l) (G := G) hl lr
        refine px (fun _ z9 => pm_Ev.more (kc := 1 + d) (ks := 6 + 6 * d) (by omega) (by omega) (k_Lw_law_555 (kc1 := 1) (ks1 := 6) (kc := d) (ks := 6 * d) (av := [.ref (0), .int (G.2.2.2.2.2 ((8 * q) + 1)), .int (G.2.2.2.2.2 ((8 * q) + 2)), .int (G.2.2.2.2.2 ((8 * q) + 3)), .ref (111)]) (st := []) (enL) rfl rfl (Nat.le_of_ble_eq_true rfl) z9)) ?_
        refine px (fun _ => pm_istore (lv' := [(6, .int (nI k)), (5, .int (nI (8 * q))), (0, .retAddr 0), (1, .ref (0)), (2, .ref (95)), (3, .ref (110)), (4, .ref (111))]) (pc := 558) d_Lw_law_558 (by decide) rfl) ?_
        refine px (fun _ => pm_aload_n (pc := 560) d_Lw_law_560 rfl) ?_
        refine px (fun _ => pm_aload_nO (pc := 561) d_Lw_law_561 rfl) ?_
        refine px (fun _ => pm_iload (pc := 562) d_Lw_law_562 rfl) ?_
        refine px (fun _ => pm_iconst (v := 1) (pc := 564) d_Lw_law_564 rfl) ?_
        refine px (fun _ => pm_iaddN (a := (8 * q)) (b := 1) (pc := 565) d_Lw_law_565) ?_
        refine px (fun _ => pm_sld (j := (8 * q) + 1) (pc := 566) d_Lw_law_566 (rfl) (by omega) hL31) ?_
        refine px (fun _ => pm_aload_nO (pc := 567) d_Lw_law_567 rfl) ?_
        refine px (fun _ => pm_iload (pc := 568) d_Lw_law_568 rfl) ?_
        refine px (fun _ => pm_iconst (v := 2) (pc := 570) d_Lw_law_570 rfl) ?_
        refine px (fun _ => pm_iaddN (a := (8 * q)) (b := 2) (pc := 571) d_Lw_law_571) ?_
        refine px (fun _ => pm_sld (j := (8 * q) + 2) (pc := 572) d_Lw_law_572 (rfl) (by omega) hL31) ?_
        refine px (fun _ => pm_aload_nO (pc := 573) d_Lw_law_573 rfl) ?_
        refine px (fun _ => pm_iload (pc := 574) d_Lw_law_574 rfl) ?_
        refine px (fun _ => pm_iconst (v := 3) (pc := 576) d_Lw_law_576 rfl) ?_
        refine px (fun _ => pm_iaddN (a := (8 * q)) (b := 3) (pc := 577) d_Lw_law_577) ?_
        refine px (fun _ => pm_sld (j := (8 * q) + 3) (pc := 578) d_Lw_law_578 (rfl) (by omega) hL31) ?_
        refine px (fun _ z9 => pm_Ev.more (kc := 0 + d) (ks := 0 + 6 * d) (by omega) (by omega) (k_Lw_law_579 (kc1 := 0) (ks1 := 0) (kc := d) (ks := 6 * d) (av := [.int (G.2.2.2.2.2 ((8 * q) + 1)), .int (G.2.2.2.2.2 ((8 * q) + 2)), .int (G.2.2.2.2.2 ((8 * q) + 3))]) (st := []) hb2 (enM) rfl rfl (Nat.le_of_ble_eq_true rfl) z9)) ?_
        refine px (fun _ => pm_dstore (lv' := [(7, .double (b)), (6, .int (nI k)), (5, .int (nI (8 * q))), (0, .retAddr 0), (1, .ref (0)), (2, .ref (95)), (3, .ref (110)), (4, .ref (111))]) (pc := 582) d_Lw_law_582 (by decide) rfl) ?_
        refine px (fun _ => pm_aload_n (pc := 584) d_Lw_law_584 rfl) ?_
        refine px (fun _ z9 => pm_Ev.more (kc := 0 + d) (ks := 0 + 6 * d) (by omega) (by omega) (k_Lw_law_585 (kc1 := 0) (ks1 := 0) (kc := d) (ks := 6 * d) (av := []) (st := []) lr2.2.1.1 (m_thrown hl lr2.2.1) rfl rfl (Nat.le_of_ble_eq_true rfl) z9)) ?_
        refine px (fun _ => pm_iload (pc := 588) d_Lw_law_588 rfl) ?_
        refine pxb (fun _ => pm_icmp_eq (pc := 590) (tgt := 595) d_Lw_law_590 (by decide)) (fun c_22 => ?_) (fun c_22 => absurd (by rw [t5]) c_22)
        refine px (fun _ => pm_iload (pc := 595) d_Lw_law_595 rfl) ?_
        by_cases k0 : k = 0
        · skip
          refine pxn (fun _ => pm_if_ne (pc := 597) (tgt := 632) d_Lw_law_597 (by decide)) (fun c_23 => absurd (by rw [k0]; rfl) c_23) (fun c_23 => ?_)
          refine px (fun _ => pm_aload (pc := 600) d_Lw_law_600 rfl) ?_
          refine px (fun _ => pm_iconst (v := 0) (pc := 602) d_Lw_law_602 rfl) ?_
          refine px (fun _ => pm_dald (j := 0) (pc := 603) d_Lw_law_603 e2 (rfl) (by decide) (by decide)) ?_
          refine px (fun _ => pm_dload (pc := 604) d_Lw_law_604 rfl) ?_
          refine px (fun _ => pm_dcmp (pc := 606) d_Lw_law_606) ?_
          refine pxb (fun _ => pm_if_eq (pc := 607) (tgt := 632) d_Lw_law_607 (by decide)) (fun c_24 => ?_) (fun c_24 => absurd (by rw [show g2 0 = b from (hb k0).1]; exact l_dself (hb k0).2) c_24)
          refine px (fun _ => pm_goto (tgt := 728) (pc := 632) d_Lw_law_632 (by decide)) ?_
          refine px (fun _ => pm_iinc (x := nI (8 * q)) (v := nI ((8 * q) + 8)) (lv' := [(5, .int (nI ((8 * q) + 8))), (7, .double (b)), (6, .int (nI k)), (0, .retAddr 0), (1, .ref (0)), (2, .ref (95)), (3, .ref (110)), (4, .ref (111))]) (pc := 728) d_Lw_law_728 rfl (nI_add _ 8) (by decide) rfl) ?_
          refine px (fun _ => pm_goto (tgt := 28) (pc := 731) d_Lw_law_731 (by decide)) ?_
          refine pxd [0, 3, 4, 5, 6, 7] rfl ?_
          rw [show 8 * q + 8 = 8 * (q + 1) by omega]
          exact pxmk (ih (q + 1) _ _ _ lr2 (by omega) (by omega))
        · skip
          refine pxn (fun _ => pm_if_ne (pc := 597) (tgt := 632) d_Lw_law_597 (by decide)) (fun c_25 => ?_) (fun c_25 => absurd c_25 (nI_ne0 (by omega) (by omega)))
          refine px (fun _ => pm_goto (tgt := 728) (pc := 632) d_Lw_law_632 (by decide)) ?_
          refine px (fun _ => pm_iinc (x := nI (8 * q)) (v := nI ((8 * q) + 8)) (lv' := [(5, .int (nI ((8 * q) + 8))), (7, .double (b)), (6, .int (nI k)), (0, .retAddr 0), (1, .ref (0)), (2, .ref (95)), (3, .ref (110)), (4, .ref (111))]) (pc := 728) d_Lw_law_728 rfl (nI_add _ 8) (by decide) rfl) ?_
          refine px (fun _ => pm_goto (tgt := 28) (pc := 731) d_Lw_law_731 (by decide)) ?_
          refine pxd [0, 3, 4, 5, 6, 7] rfl ?_
          rw [show 8 * q + 8 = 8 * (q + 1) by omega]
          exact pxmk (ih (q + 1) _ _ _ lr2 (by omega) (by omega))
      · skip
        have tx_45 : ((G.2.2.2.2.2 (8 * q) &&& 15) : Int32).toInt = 7 := by rw [hv]; rfl
        refine px (fun _ => pm_tabIn (off := 590) (tgt := 635) (pc := 45) d_Lw_law_45 (by rw [tx_45]; decide) (by rw [tx_45]; decide) (by rw [tx_45]; rfl) (by decide)) ?_
        refine px (fun _ => pm_aload_n (pc := 635) d_Lw_law_635 rfl) ?_
        refine px (fun _ => pm_aload_nO (pc := 636) d_Lw_law_636 rfl) ?_
        refine px (fun _ => pm_iload (pc := 637) d_Lw_law_637 rfl) ?_
        refine px (fun _ => pm_iconst (v := 1) (pc := 639) d_Lw_law_639 rfl) ?_
        refine px (fun _ => pm_iaddN (a := (8 * q)) (b := 1) (pc := 640) d_Lw_law_640) ?_
        refine px (fun _ => pm_sld (j := (8 * q) + 1) (pc := 641) d_Lw_law_641 (rfl) (by omega) hL31) ?_
        refine px (fun _ => pm_aload_nO (pc := 642) d_Lw_law_642 rfl) ?_
        refine px (fun _ => pm_iload (pc := 643) d_Lw_law_643 rfl) ?_
        refine px (fun _ => pm_iconst (v := 2) (pc := 645) d_Lw_law_645 rfl) ?_
        refine px (fun _ => pm_iaddN (a := (8 * q)) (b := 2) (pc := 646) d_Lw_law_646) ?_
        refine px (fun _ => pm_sld (j := (8 * q) + 2) (pc := 647) d_Lw_law_647 (rfl) (by omega) hL31) ?_
        refine px (fun _ => pm_aload_n (pc := 648) d_Lw_law_648 rfl) ?_
        obtain ⟨k, b, h1, h2, S2, T2, fs2, g2, enL, hb2, enM, lr2, t5, k4, e2, hb⟩ := L_slot (l := l) (G := G) hl lr
        refine px (fun _ z9 => pm_Ev.more (kc := 1 + d) (ks := 6 + 6 * d) (by omega) (by omega) (k_Lw_law_649 (kc1 := 1) (ks1 := 6) (kc := d) (ks := 6 * d) (av := [.ref (0), .int (G.2.2.2.2.2 ((8 * q) + 1)), .int (G.2.2.2.2.2 ((8 * q) + 2)), .ref (110)]) (st := []) (enL) rfl rfl (Nat.le_of_ble_eq_true rfl) z9)) ?_
        refine px (fun _ => pm_istore (lv' := [(6, .int (nI k)), (5, .int (nI (8 * q))), (0, .retAddr 0), (1, .ref (0)), (2, .ref (95)), (3, .ref (110)), (4, .ref (111))]) (pc := 652) d_Lw_law_652 (by decide) rfl) ?_
        refine px (fun _ => pm_aload_n (pc := 654) d_Lw_law_654 rfl) ?_
        refine px (fun _ => pm_aload_nO (pc := 655) d_Lw_law_655 rfl) ?_
        refine px (fun _ => pm_iload (pc := 656) d_Lw_law_656 rfl) ?_
        refine px (fun _ => pm_iconst (v := 1) (pc := 658) d_Lw_law_658 rfl) ?_
        refine px (fun _ => pm_iaddN (a := (8 * q)) (b := 1) (pc := 659) d_Lw_law_659) ?_
        refine px (fun _ => pm_sld (j := (8 * q) + 1) (pc := 660) d_Lw_law_660 (rfl) (by omega) hL31) ?_
        refine px (fun _ => pm_aload_nO (pc := 661) d_Lw_law_661 rfl) ?_
        refine px (fun _ => pm_iload (pc := 662) d_Lw_law_662 rfl) ?_
        refine px (fun _ => pm_iconst (v := 2) (pc := 664) d_Lw_law_664 rfl) ?_
        refine px (fun _ => pm_iaddN (a := (8 * q)) (b := 2) (pc := 665) d_Lw_law_665) ?_
        refine px (fun _ => pm_sld (j := (8 * q) + 2) (pc := 666) d_Lw_law_666 (rfl) (by omega) hL31) ?_
        refine px (fun _ z9 => pm_Ev.more (kc := 0 + d) (ks := 0 + 6 * d) (by omega) (by omega) (k_Lw_law_667 (kc1 := 0) (ks1 := 0) (kc := d) (ks := 6 * d) (av := [.int (G.2.2.2.2.2 ((8 * q) + 1)), .int (G.2.2.2.2.2 ((8 * q) + 2))]) (st := []) hb2 (enM) rfl rfl (Nat.le_of_ble_eq_true rfl) z9)) ?_
        refine px (fun _ => pm_istore (lv' := [(7, .int (b)), (6, .int (nI k)), (5, .int (nI (8 * q))), (0, .retAddr 0), (1, .ref (0)), (2, .ref (95)), (3, .ref (110)), (4, .ref (111))]) (pc := 670) d_Lw_law_670 (by decide) rfl) ?_
        refine px (fun _ => pm_aload_n (pc := 672) d_Lw_law_672 rfl) ?_
        refine px (fun _ z9 => pm_Ev.more (kc := 0 + d) (ks := 0 + 6 * d) (by omega) (by omega) (k_Lw_law_673 (kc1 := 0) (ks1 := 0) (kc := d) (ks := 6 * d) (av := []) (st := []) lr2.2.1.1 (m_thrown hl lr2.2.1) rfl rfl (Nat.le_of_ble_eq_true rfl) z9)) ?_
        refine px (fun _ => pm_iload (pc := 676) d_Lw_law_676 rfl) ?_
        refine pxb (fun _ => pm_icmp_eq (pc := 678) (tgt := 683) d_Lw_law_678 (by decide)) (fun c_26 => ?_) (fun c_26 => absurd (by rw [t5]) c_26)
        refine px (fun _ => pm_iload (pc := 683) d_Lw_law_683 rfl) ?_
        by_cases k0 : k = 0
        · skip
          refine pxn (fun _ => pm_if_ne (pc := 685) (tgt := 700) d_Lw_law_685 (by decide)) (fun c_27 => absurd (by rw [k0]; rfl) c_27) (fun c_27 => ?_)
          refine px (fun _ => pm_aload_n (pc := 688) d_Lw_law_688 rfl) ?_
          refine px (fun _ => pm_iconst (v := 0) (pc := 689) d_Lw_law_689 rfl) ?_
          refine px (fun _ => pm_lald (j := 0) (pc := 690) d_Lw_law_690 e2 (rfl) (by decide) (by decide)) ?_
          refine px (fun _ => pm_iload (pc := 691) d_Lw_law_691 rfl) ?_
          refine px (fun _ => pm_i2l (pc := 693) d_Lw_law_693) ?_
          refine px (fun _ => pm_lcmp (pc := 694) d_Lw_law_694) ?_
          refine pxb (fun _ => pm_if_eq (pc := 695) (tgt := 700) d_Lw_law_695 (by decide)) (fun c_28 => ?_) (fun c_28 => absurd (by rw [show g2 0 = b.toInt64 from hb k0]; exact lg_self _) c_28)
          refine px (fun _ => pm_goto (tgt := 728) (pc := 700) d_Lw_law_700 (by decide)) ?_
          refine px (fun _ => pm_iinc (x := nI (8 * q)) (v := nI ((8 * q) + 8)) (lv' := [(5, .int (nI ((8 * q) + 8))), (7, .int (b)), (6, .int (nI k)), (0, .retAddr 0), (1, .ref (0)), (2, .ref (95)), (3, .ref (110)), (4, .ref (111))]) (pc := 728) d_Lw_law_728 rfl (nI_add _ 8) (by decide) rfl) ?_
          refine px (fun _ => pm_goto (tgt := 28) (pc := 731) d_Lw_law_731 (by decide)) ?_
          refine pxd [0, 3, 4, 5, 6, 7] rfl ?_
          rw [show 8 * q + 8 = 8 * (q + 1) by omega]
          exact pxmk (ih (q + 1) _ _ _ lr2 (by omega) (by omega))
        · skip
          refine pxn (fun _ => pm_if_ne (pc := 685) (tgt := 700) d_Lw_law_685 (by decide)) (fun c_29 => ?_) (fun c_29 => absurd c_29 (nI_ne0 (by omega) (by omega)))
          refine px (fun _ => pm_goto (tgt := 728) (pc := 700) d_Lw_law_700 (by decide)) ?_
          refine px (fun _ => pm_iinc (x := nI (8 * q)) (v := nI ((8 * q) + 8)) (lv' := [(5, .int (nI ((8 * q) + 8))), (7, .int (b)), (6, .int (nI k)), (0, .retAddr 0), (1, .ref (0)), (2, .ref (95)), (3, .ref (110)), (4, .ref (111))]) (pc := 728) d_Lw_law_728 rfl (nI_add _ 8) (by decide) rfl) ?_
          refine px (fun _ => pm_goto (tgt := 28) (pc := 731) d_Lw_law_731 (by decide)) ?_
          refine pxd [0, 3, 4, 5, 6, 7] rfl ?_
          rw [show 8 * q + 8 = 8 * (q + 1) by omega]
          exact pxmk (ih (q + 1) _ _ _ lr2 (by omega) (by omega))
      · skip
        have tx_45 : ((G.2.2.2.2.2 (8 * q) &&& 15) : Int32).toInt = 8 := by rw [hv]; rfl
        refine px (fun _ => pm_tabIn (off := 658) (tgt := 703) (pc := 45) d_Lw_law_45 (by rw [tx_45]; decide) (by rw [tx_45]; decide) (by rw [tx_45]; rfl) (by decide)) ?_
        refine px (fun _ => pm_aload_n (pc := 703) d_Lw_law_703 rfl) ?_
        refine px (fun _ => pm_aload_nO (pc := 704) d_Lw_law_704 rfl) ?_
        refine px (fun _ => pm_iload (pc := 705) d_Lw_law_705 rfl) ?_
        refine px (fun _ => pm_iconst (v := 1) (pc := 707) d_Lw_law_707 rfl) ?_
        refine px (fun _ => pm_iaddN (a := (8 * q)) (b := 1) (pc := 708) d_Lw_law_708) ?_
        refine px (fun _ => pm_sld (j := (8 * q) + 1) (pc := 709) d_Lw_law_709 (rfl) (by omega) hL31) ?_
        obtain ⟨v9, h2, S2, T2, fs2, enL, hb2, enM, lr2⟩ := L_count (l := l) (G := G) (p0 := G.2.2.2.2.2 ((8 * q) + 1)) hl lr
        refine px (fun _ z9 => pm_Ev.more (kc := 0 + d) (ks := 0 + 6 * d) (by omega) (by omega) (k_Lw_law_710 (kc1 := 0) (ks1 := 0) (kc := d) (ks := 6 * d) (av := [.int (G.2.2.2.2.2 ((8 * q) + 1))]) (st := []) lr.1.1 (enL) rfl rfl (Nat.le_of_ble_eq_true rfl) z9)) ?_
        refine px (fun _ => pm_aload_n (pc := 713) d_Lw_law_713 rfl) ?_
        refine px (fun _ => pm_aload_nO (pc := 714) d_Lw_law_714 rfl) ?_
        refine px (fun _ => pm_iload (pc := 715) d_Lw_law_715 rfl) ?_
        refine px (fun _ => pm_iconst (v := 1) (pc := 717) d_Lw_law_717 rfl) ?_
        refine px (fun _ => pm_iaddN (a := (8 * q)) (b := 1) (pc := 718) d_Lw_law_718) ?_
        refine px (fun _ => pm_sld (j := (8 * q) + 1) (pc := 719) d_Lw_law_719 (rfl) (by omega) hL31) ?_
        refine px (fun _ z9 => pm_Ev.more (kc := 0 + d) (ks := 0 + 6 * d) (by omega) (by omega) (k_Lw_law_720 (kc1 := 0) (ks1 := 0) (kc := d) (ks := 6 * d) (av := [.int (G.2.2.2.2.2 ((8 * q) + 1))]) (st := [.int (v9)]) lr.2.1.1 (enM) rfl rfl (Nat.le_of_ble_eq_true rfl) z9)) ?_
        refine pxb (fun _ => pm_icmp_eq (pc := 723) (tgt := 728) d_Lw_law_723 (by decide)) (fun c_30 => ?_) (fun c_30 => absurd (rfl) c_30)
        refine px (fun _ => pm_iinc (x := nI (8 * q)) (v := nI ((8 * q) + 8)) (lv' := [(5, .int (nI ((8 * q) + 8))), (0, .retAddr 0), (1, .ref (0)), (2, .ref (95)), (3, .ref (110)), (4, .ref (111))]) (pc := 728) d_Lw_law_728 rfl (nI_add _ 8) (by decide) rfl) ?_
        refine px (fun _ => pm_goto (tgt := 28) (pc := 731) d_Lw_law_731 (by decide)) ?_
        refine pxd [0, 1, 2, 3, 4, 5] rfl ?_
        rw [show 8 * q + 8 = 8 * (q + 1) by omega]
        exact pxmk (ih (q + 1) _ _ _ lr2 (by omega) (by omega))
      · skip
        refine px (fun _ => pm_tabOut (tgt := 728) (pc := 45) d_Lw_law_45 (hv) (by decide)) ?_
        refine px (fun _ => pm_iinc (x := nI (8 * q)) (v := nI ((8 * q) + 8)) (lv' := [(5, .int (nI ((8 * q) + 8))), (0, .retAddr 0), (1, .ref (0)), (2, .ref (95)), (3, .ref (110)), (4, .ref (111))]) (pc := 728) d_Lw_law_728 rfl (nI_add _ 8) (by decide) rfl) ?_
        refine px (fun _ => pm_goto (tgt := 28) (pc := 731) d_Lw_law_731 (by decide)) ?_
        refine pxd [0, 1, 2, 3, 4, 5] rfl ?_
        rw [show 8 * q + 8 = 8 * (q + 1) by omega]
        exact pxmk (ih (q + 1) _ _ _ lr (by omega) (by omega))
    · refine px (fun _ => pm_iload (pc := 28) d_Lw_law_28 rfl) ?_
      refine px (fun _ => pm_aload_nO (pc := 30) d_Lw_law_30 rfl) ?_
      refine px (fun _ => pm_slen (pc := 31) d_Lw_law_31) ?_
      refine px (fun _ => pm_bipush (v := 8) (pc := 32) d_Lw_law_32 rfl) ?_
      refine px (fun _ => pm_isub (pc := 34) d_Lw_law_34) ?_
      refine pxb (fun _ => pm_icmp_gt (pc := 35) (tgt := 734) d_Lw_law_35 (by decide)) (fun c_1 => ?_) (fun c_1 => absurd (l_end hL (by omega) (by omega)) c_1)
      refine px (fun _ => pm_iconst (v := 1) (pc := 734) d_Lw_law_734 rfl) ?_
      exact pxr (((pm_iret (pc := 735) d_Lw_law_735 rfl rfl).more (Nat.zero_le _) (Nat.zero_le _))) rfl
