/-! ===== the class: Work.workOut, whatever the operator ===== -/
set_option maxHeartbeats 4000000 in
set_option maxRecDepth 20000 in
theorem c_work {l : Launch} {G : pm_G} {fi : Bool} {h : pm_H} {S : gS} {a b c o9 n xb xc : Nat} (hl : l.stackTraces = false) (H : gH S h) (hW : gW S) (hn : n < 14) (ho : o9 < 20) (ha : a < 20) (na : a ≠ o9) (hxb : 1 < g_ar (gN S n 1) → xb = 8 + 3 * b ∧ b < 20 ∧ b ≠ o9) (hxc : 2 < g_ar (gN S n 1) → xc = 8 + 3 * c ∧ c < 20 ∧ c ≠ o9) (hs : g_fx S n a b c = some (gT S o9 0, gT S o9 1, gT S o9 2)) (hB : ¬ gN S n 1 = 17 → gBt S a ∧ (1 < g_ar (gN S n 1) → gBt S b)) : pm_Cn l G fi fi 0 0 M_Wk_workOut [.ref (67 + 2 * n), .ref (8 + 3 * a), .ref xb, .ref xc, .ref (8 + 3 * o9)] h (g_PW S n a b c o9 h) := by
  have bn := hW.2.2.2.2.2 n hn
  have ba := hW.2.2.2.2.1 a ha
  have bo := hW.2.2.2.2.1 o9 ho
  have hk : gN S n 1 = 0 ∨ gN S n 1 = 1 ∨ gN S n 1 = 2 ∨ gN S n 1 = 3 ∨ gN S n 1 = 4 ∨ gN S n 1 = 5 ∨ gN S n 1 = 6 ∨ gN S n 1 = 7 ∨ gN S n 1 = 8 ∨ gN S n 1 = 9 ∨ gN S n 1 = 10 ∨ gN S n 1 = 11 ∨ gN S n 1 = 12 ∨ gN S n 1 = 13 ∨ gN S n 1 = 14 ∨ gN S n 1 = 15 ∨ gN S n 1 = 16 ∨ gN S n 1 = 17 ∨ gN S n 1 = 18 := by omega
  rcases hk with hop | hop | hop | hop | hop | hop | hop | hop | hop | hop | hop | hop | hop | hop | hop | hop | hop | hop | hop
  · obtain ⟨rfl, hb, nb⟩ := hxb (by rw [hop]; decide)
    have bb := hW.2.2.2.2.1 b hb
    have hBa := (hB (by omega)).1
    have hBb := (hB (by omega)).2 (by rw [hop]; decide)
    simp only [g_fx, hop] at hs
    obtain ⟨h1, hs⟩ := g_ite_some hs
    obtain ⟨h2, hs⟩ := g_ite_some hs
    obtain ⟨z0, z1, z2⟩ := g_tri (g_sh_eq hs)
    exact g_PW_of (x_0 hl H hW hn ho ha na hb nb hop (fun x y hx hy _ => g_nadd (g_ag_B (ro := gT S o9 1) (co := gT S o9 2) hBa ⟨by omega, by omega⟩ ⟨by omega, by omega⟩ hx hy) (g_ag_B (ro := gT S o9 1) (co := gT S o9 2) hBb ⟨by omega, by omega⟩ ⟨by omega, by omega⟩ hx hy))) (by simp only [g_E, hop]) (by omega) (by omega)
  · obtain ⟨rfl, hb, nb⟩ := hxb (by rw [hop]; decide)
    have bb := hW.2.2.2.2.1 b hb
    have hBa := (hB (by omega)).1
    have hBb := (hB (by omega)).2 (by rw [hop]; decide)
    simp only [g_fx, hop] at hs
    obtain ⟨h1, hs⟩ := g_ite_some hs
    obtain ⟨h2, hs⟩ := g_ite_some hs
    obtain ⟨z0, z1, z2⟩ := g_tri (g_sh_eq hs)
    exact g_PW_of (x_1 hl H hW hn ho ha na hb nb hop (fun x y hx hy _ => g_nsub (g_ag_B (ro := gT S o9 1) (co := gT S o9 2) hBa ⟨by omega, by omega⟩ ⟨by omega, by omega⟩ hx hy) (g_ag_B (ro := gT S o9 1) (co := gT S o9 2) hBb ⟨by omega, by omega⟩ ⟨by omega, by omega⟩ hx hy))) (by simp only [g_E, hop]) (by omega) (by omega)
  · obtain ⟨rfl, hb, nb⟩ := hxb (by rw [hop]; decide)
    have bb := hW.2.2.2.2.1 b hb
    have hBa := (hB (by omega)).1
    have hBb := (hB (by omega)).2 (by rw [hop]; decide)
    simp only [g_fx, hop] at hs
    obtain ⟨h1, hs⟩ := g_ite_some hs
    obtain ⟨h2, hs⟩ := g_ite_some hs
    obtain ⟨z0, z1, z2⟩ := g_tri (g_sh_eq hs)
    exact g_PW_of (x_2 hl H hW hn ho ha na hb nb hop (fun x y hx hy _ => g_nmul (g_ag_B (ro := gT S o9 1) (co := gT S o9 2) hBa ⟨by omega, by omega⟩ ⟨by omega, by omega⟩ hx hy) (g_ag_B (ro := gT S o9 1) (co := gT S o9 2) hBb ⟨by omega, by omega⟩ ⟨by omega, by omega⟩ hx hy))) (by simp only [g_E, hop]) (by omega) (by omega)
  · obtain ⟨rfl, hb, nb⟩ := hxb (by rw [hop]; decide)
    have bb := hW.2.2.2.2.1 b hb
    have hBa := (hB (by omega)).1
    have hBb := (hB (by omega)).2 (by rw [hop]; decide)
    simp only [g_fx, hop] at hs
    obtain ⟨h1, hs⟩ := g_ite_some hs
    obtain ⟨h2, hs⟩ := g_ite_some hs
    obtain ⟨z0, z1, z2⟩ := g_tri (g_sh_eq hs)
    obtain ⟨r, ⟨f, q1, q2, q3⟩, k⟩ := x_3 hl H hW hn ho ha na hb nb hop (fun x y hx hy _ hz => g_ndiv (g_ag_B (ro := gT S o9 1) (co := gT S o9 2) hBa ⟨by omega, by omega⟩ ⟨by omega, by omega⟩ hx hy) (g_ag_B (ro := gT S o9 1) (co := gT S o9 2) hBb ⟨by omega, by omega⟩ ⟨by omega, by omega⟩ hx hy) hz)
    refine ⟨r, ⟨f, q1, q2, ?_⟩, k⟩
    rcases q3 with ⟨q3, q4⟩ | ⟨q3, q4⟩
    · exact Or.inl ⟨q3, ⟨fun _ x y hx hy => q4.2 x y hy (by omega), fun q => by omega⟩, by simp only [g_E, hop]; exact q4.1⟩
    · refine Or.inr ⟨by rw [if_pos hop]; exact q3, fun q => ?_⟩
      obtain ⟨x, y, hx, hy, hz⟩ := q4
      exact hz (q.1 hop x y hx hy)
  · obtain ⟨rfl, hb, nb⟩ := hxb (by rw [hop]; decide)
    have bb := hW.2.2.2.2.1 b hb
    have hBa := (hB (by omega)).1
    have hBb := (hB (by omega)).2 (by rw [hop]; decide)
    simp only [g_fx, hop] at hs
    obtain ⟨h1, hs⟩ := g_ite_some hs
    obtain ⟨z0, z1, z2⟩ := g_tri (g_sh_eq hs)
    exact g_PW_of (x_4 hl H hW hn ho ha na hb nb hop (fun x k9 hx hk => hBa x k9 (by omega) hk) (fun k9 y hk hy => hBb k9 y (by omega) (by omega))) (by simp only [g_E, hop]) (by omega) (by omega)
  · have hBa := (hB (by omega)).1
    simp only [g_fx, hop] at hs
    exact g_PW_of (x_5 hl H hW hn ho ha na hop) (by simp only [g_E, hop]) (by omega) (by omega)
  · have hBa := (hB (by omega)).1
    simp only [g_fx, hop] at hs
    exact g_PW_of (x_6 hl H hW hn ho ha na hop) (by simp only [g_E, hop]) (by omega) (by omega)
  · have hBa := (hB (by omega)).1
    simp only [g_fx, hop] at hs
    exact g_PW_of (x_7 hl H hW hn ho ha na hop) (by simp only [g_E, hop]) (by omega) (by omega)
  · obtain ⟨rfl, hb, nb⟩ := hxb (by rw [hop]; decide)
    have bb := hW.2.2.2.2.1 b hb
    have hBa := (hB (by omega)).1
    have hBb := (hB (by omega)).2 (by rw [hop]; decide)
    simp only [g_fx, hop] at hs
    exact g_PW_of (x_8 hl H hW hn ho ha na hb nb hop) (by simp only [g_E, hop]) (by omega) (by omega)
  · obtain ⟨rfl, hb, nb⟩ := hxb (by rw [hop]; decide)
    have bb := hW.2.2.2.2.1 b hb
    obtain ⟨rfl, hc, nc⟩ := hxc (by rw [hop]; decide)
    have hBa := (hB (by omega)).1
    have hBb := (hB (by omega)).2 (by rw [hop]; decide)
    simp only [g_fx, hop] at hs
    exact g_PW_of (x_9 hl H hW hn ho ha na hb nb hc nc hop) (by simp only [g_E, hop]) (by omega) (by omega)
  · have hBa := (hB (by omega)).1
    simp only [g_fx, hop] at hs
    by_cases hp : gQ S n 0 = 0
    · rw [if_pos hp] at hs
      obtain ⟨z0, z1, z2⟩ := g_tri (g_sh_eq hs)
      exact g_PW_of (x_10_0 hl H hW hn ho ha na hop hp z1 z2 hBa) (by simp only [g_E, hop]; rw [if_pos hp]) (by omega) (by omega)
    · rw [if_neg hp] at hs
      obtain ⟨hp1, hs⟩ := g_ite_some hs
      obtain ⟨z0, z1, z2⟩ := g_tri (g_sh_eq hs)
      exact g_PW_of (x_10_1 hl H hW hn ho ha na hop hp1 z1 z2 hBa) (by simp only [g_E, hop]; rw [if_neg hp]) (by omega) (by omega)
  · have hBa := (hB (by omega)).1
    simp only [g_fx, hop] at hs
    by_cases hp : gQ S n 0 = 0
    · rw [if_pos hp] at hs
      obtain ⟨z0, z1, z2⟩ := g_tri (g_sh_eq hs)
      exact g_PW_of (x_11_0 hl H hW hn ho ha na hop hp z1 z2) (by simp only [g_E, hop]; rw [if_pos hp]) (by omega) (by omega)
    · rw [if_neg hp] at hs
      obtain ⟨hp1, hs⟩ := g_ite_some hs
      obtain ⟨z0, z1, z2⟩ := g_tri (g_sh_eq hs)
      exact g_PW_of (x_11_1 hl H hW hn ho ha na hop hp1 z1 z2) (by simp only [g_E, hop]; rw [if_neg hp]) (by omega) (by omega)
  · have hBa := (hB (by omega)).1
    simp only [g_fx, hop] at hs
    obtain ⟨z0, z1, z2⟩ := g_tri (g_sh_eq hs)
    exact g_PW_of (x_12 hl H hW hn ho ha na hop z1 z2) (by simp only [g_E, hop]) (by omega) (by omega)
  · obtain ⟨rfl, hb, nb⟩ := hxb (by rw [hop]; decide)
    have bb := hW.2.2.2.2.1 b hb
    have hBa := (hB (by omega)).1
    have hBb := (hB (by omega)).2 (by rw [hop]; decide)
    simp only [g_fx, hop] at hs
    obtain ⟨h1, hs⟩ := g_ite_some hs
    by_cases hp : gQ S n 0 = 0
    · rw [if_pos hp] at hs
      obtain ⟨h2, hs⟩ := g_ite_some hs
      obtain ⟨z0, z1, z2⟩ := g_tri (g_sh_eq hs)
      exact g_PW_of (x_13_0 hl H hW hn ho ha na hb nb hop hp z1 z2 h2.symm) (by simp only [g_E, hop]; rw [if_pos hp]) (by omega) (by omega)
    · rw [if_neg hp] at hs
      obtain ⟨hp1, hs⟩ := g_ite_some hs
      obtain ⟨h2, hs⟩ := g_ite_some hs
      obtain ⟨z0, z1, z2⟩ := g_tri (g_sh_eq hs)
      exact g_PW_of (x_13_1 hl H hW hn ho ha na hb nb hop hp z1 h2.symm z2) (by simp only [g_E, hop]; rw [if_neg hp]) (by omega) (by omega)
  · have hBa := (hB (by omega)).1
    simp only [g_fx, hop] at hs
    obtain ⟨h1, hs⟩ := g_ite_some hs
    obtain ⟨h2, hs⟩ := g_ite_some hs
    obtain ⟨z0, z1, z2⟩ := g_tri (g_sh_eq hs)
    have le := iN_mono h1.2
    exact g_PW_of (x_14 hl H hW hn ho ha na hop (nI_iN h1.1) (by omega) z2) (by simp only [g_E, hop]) (by omega) (by omega)
  · obtain ⟨rfl, hb, nb⟩ := hxb (by rw [hop]; decide)
    have bb := hW.2.2.2.2.1 b hb
    have hBa := (hB (by omega)).1
    have hBb := (hB (by omega)).2 (by rw [hop]; decide)
    simp only [g_fx, hop] at hs
    obtain ⟨h1, hs⟩ := g_ite_some hs
    obtain ⟨z0, z1, z2⟩ := g_tri (g_sh_eq hs)
    obtain ⟨r, ⟨f, q1, q2, q3⟩, k⟩ := x_15 hl H hW hn ho ha na hb nb hop z1 z2
    refine ⟨r, ⟨f, q1, q2, ?_⟩, k⟩
    rcases q3 with ⟨q3, q4, q5⟩ | ⟨q3, q4⟩
    · exact Or.inl ⟨q3, ⟨fun q => by omega, fun _ x hx => q5 x hx⟩, by simp only [g_E, hop]; exact q4⟩
    · refine Or.inr ⟨by rw [if_neg (by omega)]; exact q3, fun q => ?_⟩
      obtain ⟨x, hx, hz⟩ := q4
      exact hz (q.2 hop x hx)
  · obtain ⟨rfl, hb, nb⟩ := hxb (by rw [hop]; decide)
    have bb := hW.2.2.2.2.1 b hb
    have hBa := (hB (by omega)).1
    have hBb := (hB (by omega)).2 (by rw [hop]; decide)
    simp only [g_fx, hop] at hs
    obtain ⟨h1, hs⟩ := g_ite_some hs
    obtain ⟨h2, hs⟩ := g_ite_some hs
    obtain ⟨h3, hs⟩ := g_ite_some hs
    obtain ⟨z0, z1, z2⟩ := g_tri (g_sh_eq hs)
    have hp0 : ¬ gQ S n 0 < 0 := fun q => h2.1 (Int32.lt_iff_toInt_lt.mpr (by have q2 : (gQ S n 0).toInt < 0 := Int32.lt_iff_toInt_lt.mp q; have q3 : (1 : Int32).toInt = 1 := rfl; omega))
    have p2 := iN_le (k := 2) (by omega) (Int32.not_lt.mp h2.2.1)
    have q2 := iN_le (k := 2) (by omega) h2.2.2.2
    exact g_PW_of (x_16 hl H hW hn ho ha na hb nb hop (nI_iN hp0) (nI_iN h2.2.2.1) p2 q2 z1.symm hBa (fun k9 hk => hBb 0 k9 (by omega) hk)) (by simp only [g_E, hop]) (by omega) (by omega)
  · obtain ⟨rfl, hb, nb⟩ := hxb (by rw [hop]; decide)
    have bb := hW.2.2.2.2.1 b hb
    obtain ⟨rfl, hc, nc⟩ := hxc (by rw [hop]; decide)
    simp only [g_fx, hop] at hs
    obtain ⟨h1, hs⟩ := g_ite_some hs
    obtain ⟨z0, z1, z2⟩ := g_tri (g_sh_eq hs)
    by_cases hz : fEq (gC S c (0 * 4 + 0)) FP.dconst0
    · exact g_PW_of (x_17_1 hl H hW hn ho ha na hb nb hc nc hop hz z1 z2 (by omega) (by omega)) (by simp only [g_E, hop]; rw [if_pos hz]) (by omega) (by omega)
    · exact g_PW_of (x_17_0 hl H hW hn ho ha na hb nb hc nc hop hz z1 z2 (by omega) (by omega)) (by simp only [g_E, hop]; rw [if_neg hz]) (by omega) (by omega)
  · have hBa := (hB (by omega)).1
    simp only [g_fx, hop] at hs
    exact g_PW_of (x_18 hl H hW hn ho ha na hop) (by simp only [g_E, hop]) (by omega) (by omega)
