/-! ===== the judgement with its end left open: some r with Post r ===== -/
def pm_Px (l : Launch) (G : pm_G) (fi fo : Bool) (kc ks : Nat) (M : pm_M) (pc : Nat) (lv : List (Nat × Value)) (st : List Value) (h : pm_H) (Post : pm_O × pm_H → Prop) : Prop := ∃ r, Post r ∧ pm_Ev l G fi fo kc ks M pc lv st h r
def pm_Cn (l : Launch) (G : pm_G) (fi fo : Bool) (kc ks : Nat) (M : pm_M) (av : List Value) (h : pm_H) (Post : pm_O × pm_H → Prop) : Prop := ∃ r, Post r ∧ pm_En l G fi fo kc ks M av h r
section PX
variable {l : Launch} {G : pm_G} {fi fo fi' : Bool} {kc ks kc' ks' : Nat} {M : pm_M} {pc pc' pc1 pc2 : Nat} {lv lv' lv1 lv2 : List (Nat × Value)} {st st' st1 st2 : List Value} {h h' h1 h2 : pm_H} {Post : pm_O × pm_H → Prop}
theorem px (hk : ∀ r, pm_Ev l G fi' fo kc' ks' M pc' lv' st' h' r → pm_Ev l G fi fo kc ks M pc lv st h r) (k : pm_Px l G fi' fo kc' ks' M pc' lv' st' h' Post) : pm_Px l G fi fo kc ks M pc lv st h Post := by
  obtain ⟨r, hp, e⟩ := k
  exact ⟨r, hp, hk r e⟩
theorem pxb {A : Prop} (hb : ∀ r, (A → pm_Ev l G fi fo kc ks M pc1 lv1 st1 h1 r) → (¬ A → pm_Ev l G fi fo kc ks M pc2 lv2 st2 h2 r) → pm_Ev l G fi fo kc ks M pc lv st h r) (k1 : A → pm_Px l G fi fo kc ks M pc1 lv1 st1 h1 Post) (k2 : ¬ A → pm_Px l G fi fo kc ks M pc2 lv2 st2 h2 Post) : pm_Px l G fi fo kc ks M pc lv st h Post := by
  by_cases a : A
  · obtain ⟨r, hp, e⟩ := k1 a
    exact ⟨r, hp, hb r (fun _ => e) (fun q => absurd a q)⟩
  · obtain ⟨r, hp, e⟩ := k2 a
    exact ⟨r, hp, hb r (fun q => absurd q a) (fun _ => e)⟩
theorem pxn {A : Prop} (hb : ∀ r, (¬ A → pm_Ev l G fi fo kc ks M pc1 lv1 st1 h1 r) → (A → pm_Ev l G fi fo kc ks M pc2 lv2 st2 h2 r) → pm_Ev l G fi fo kc ks M pc lv st h r) (k1 : ¬ A → pm_Px l G fi fo kc ks M pc1 lv1 st1 h1 Post) (k2 : A → pm_Px l G fi fo kc ks M pc2 lv2 st2 h2 Post) : pm_Px l G fi fo kc ks M pc lv st h Post := by
  by_cases a : A
  · obtain ⟨r, hp, e⟩ := k2 a
    exact ⟨r, hp, hb r (fun q => absurd a q) (fun _ => e)⟩
  · obtain ⟨r, hp, e⟩ := k1 a
    exact ⟨r, hp, hb r (fun _ => e) (fun q => absurd q a)⟩
theorem pxr {r : pm_O × pm_H} (e : pm_Ev l G fi fo kc ks M pc lv st h r) (hp : Post r) : pm_Px l G fi fo kc ks M pc lv st h Post := ⟨r, hp, e⟩
theorem pxm {Post' : pm_O × pm_H → Prop} (k : pm_Px l G fi fo kc ks M pc lv st h Post') (hp : ∀ r, Post' r → Post r) : pm_Px l G fi fo kc ks M pc lv st h Post := by
  obtain ⟨r, q, e⟩ := k
  exact ⟨r, hp r q, e⟩
theorem pm_Cn.of {av : List Value} (hl : l.stackTraces = false) (hy : plainName M.1.cls = true) (hn : (lg_sl av).length ≤ M.2.2.1) (k : pm_Px l G fi fo kc ks M 0 (lv_args 0 av) [] h Post) : pm_Cn l G fi fo kc ks M av h Post := by
  obtain ⟨r, hp, e⟩ := k
  exact ⟨r, hp, pm_En.of hl hy hn e⟩
/-- stores with the new cell spelt out -/
theorem pm_putfC {idx ci k a : Nat} {ty : FieldType} {fs : List Value} {v : Value} {c' : va_E} {r : pm_O × pm_H} (fl : pm_FP M.1.cls idx ci k ty) (d : decode M.2.1 pc = .ok (.putfield idx, 3)) (he : h[a]? = some (.inr (ci, fs))) (hl : k < fs.length) (hn : narrow ty (pm_rv G v) = pm_rv G v) (hf : fits ty (pm_rv G v) = true) (hc : (.inr (ci, fs.set k v) : va_E) = c') (kk : pm_Ev l G fi fo kc ks M (pc + 3) lv st (h.set a c') r) : pm_Ev l G fi fo kc ks M pc lv (v :: .ref a :: st) h r := by
  subst hc
  exact pm_putf fl d he hl hn hf kk
end PX
