/-! ===== class and model: what they have in common ===== -/
abbrev g_fed (S : gS) (s : Nat) : Prop := gK S s 0 = 1 ∨ gK S s 0 = 2
abbrev g_ho (S : gS) (n : Nat) : Prop := gN S n 5 = 1 ∨ gN S n 4 = 1
/-- makers and outcomes belong to each other -/
def gJ (S : gS) : Prop := (∀ s, s < 20 → gK S s 0 = 3 → gK S s 1 < gG S 0 ∧ gN S (gK S s 1) 2 = s) ∧ (∀ n, n < gG S 0 → gK S (gN S n 2) 0 = 3 ∧ gK S (gN S n 2) 1 = n)
/-- the order is one: a node's place, before it those whose outcomes it wants -/
def gOk (S : gS) : Prop := ∃ pos : Nat → Nat, (∀ n, n < gG S 0 → pos n < gG S 0 ∧ gO S (pos n) = n) ∧ (∀ k, k < gG S 0 → gO S k < gG S 0 ∧ pos (gO S k) = k) ∧ (∀ n, n < gG S 0 → ∀ k, k < gN S n 0 → g_fed S (g_as S n k) ∨ gK S (g_as S n k) 0 = 3 ∧ pos (gK S (g_as S n k) 1) < pos n)
/-- each outcome has its type and shape -/
def gSh (S : gS) : Prop := ∀ n, n < gG S 0 → g_fn S n = some (gT S (gN S n 2) 0, gT S (gN S n 2) 1, gT S (gN S n 2) 2)
/-- what holds of the class between calls -/
def gI (S : gS) : Prop := gW S ∧ gV S ∧ gU S ∧ gJ S ∧ (∀ n, n < gG S 0 → gN S n 4 = 1 → gN S n 5 = 0) ∧ (gG S 1 = 0 → ∀ n, n < gG S 0 → gN S n 4 = 0 ∧ gN S n 5 = 0) ∧ (gG S 1 = 1 → gOk S ∧ gSh S) ∧ (∀ s, s < 20 → g_thP S s → g_gd S s)
/-- a node is the same in the model -/
def mNd (S : gS) (T : mS) (n : Nat) : Prop := mA T 6 n = gN S n 1 ∧ mA T 7 n = gN S n 2 ∧ mQ T 8 n = gQ S n 0 ∧ mQ T 9 n = gQ S n 1 ∧ mQ T 12 (n * 3) = gA S n 0 ∧ mQ T 12 (n * 3 + 1) = gA S n 1 ∧ mQ T 12 (n * 3 + 2) = gA S n 2
def mTb (S : gS) (T : mS) (s : Nat) : Prop := mA T 1 s = gT S s 0 ∧ mA T 2 s = gT S s 1 ∧ mA T 3 s = gT S s 2
def mCl (S : gS) (T : mS) (s : Nat) : Prop := ∀ x y, x < gT S s 1 → y < gT S s 2 → mV T (s * 16 + x * 4 + y) = gC S s (x * 4 + y)
def g_ss0 (S : gS) (n : Nat) : Nat := if gN S n 4 = 1 then 1 else if gN S n 5 = 1 then 2 else 0
/-- the part of the relation that a call of prepare keeps -/
def gR0 (S : gS) (T : mS) : Prop := mG T 0 = gG S 0 ∧ mG T 2 = gG S 2 ∧ mG T 3 = gG S 3 ∧ (∀ s, s < 20 → mA T 0 s = gK S s 0 ∧ (gK S s 0 = 3 → mA T 4 s = gK S s 1)) ∧ (∀ n, n < gG S 0 → mNd S T n)
def gR (S : gS) (T : mS) : Prop := gR0 S T ∧ mG T 6 = gG S 1 ∧ mG T 1 = g_cnt (fun n => gN S n 4) 0 (gG S 0) ∧ (∀ n, n < gG S 0 → mA T 10 n = g_ss0 S n) ∧ (∀ s, s < 20 → (g_fed S s ∨ gK S s 0 = 3 ∧ gG S 1 = 1) → mTb S T s) ∧ (gG S 1 = 1 → ∀ k, k < gG S 0 → mA T 11 k = gO S k) ∧ (∀ s, s < 20 → g_thP S s → mCl S T s)
theorem g_cnt_0 {f : Nat → Nat} : ∀ (d i : Nat), (∀ k, i ≤ k → k < i + d → f k = 0) → g_cnt f i d = 0
  | 0, _, _ => rfl
  | d + 1, i, h => by
    simp only [g_cnt]
    rw [if_pos (h i (by omega) (by omega)), g_cnt_0 d (i + 1) (fun k h1 h2 => h k (by omega) (by omega))]
theorem g_cnt_congr {f g : Nat → Nat} : ∀ (d i : Nat), (∀ k, i ≤ k → k < i + d → (f k = 0 ↔ g k = 0)) → g_cnt f i d = g_cnt g i d
  | 0, _, _ => rfl
  | d + 1, i, h => by
    simp only [g_cnt]
    rw [g_cnt_congr d (i + 1) (fun k h1 h2 => h k (by omega) (by omega))]
    have h0 := h i (by omega) (by omega)
    by_cases q : f i = 0
    · rw [if_pos q, if_pos (h0.mp q)]
    · rw [if_neg q, if_neg (fun r => q (h0.mpr r))]
/-- states of the model -/
def msZ (T : mS) (i : Nat) : mS := (T.1, (fun a b => if a = 10 ∧ i ≤ b ∧ b < 14 then 0 else T.2.1 a b), T.2.2)
abbrev mChg (T : mS) : mS := msG (msZ (msG T 6 0) 0) 1 0
def msK (T : mS) (i : Nat) : mS := (T.1, (fun a b => if a = 10 ∧ i ≤ b ∧ b < 14 ∧ nI (T.2.1 10 b) = 2 then 0 else T.2.1 a b), T.2.2)
def msV0 (T : mS) (j i : Nat) : mS := (T.1, T.2.1, T.2.2.1, (fun k => if j * 16 + i ≤ k ∧ k < j * 16 + 16 then FP.dconst0 else T.2.2.2.1 k), T.2.2.2.2)
theorem g_fn_congr {S S' : gS} {n a b c : Nat} (hk : gN S n 1 ≤ 18) (e1 : gN S' n 1 = gN S n 1) (eq : gQ S' n = gQ S n) (ea : gT S' a = gT S a) (eb : 1 < g_ar (gN S n 1) → gT S' b = gT S b) (ec : 2 < g_ar (gN S n 1) → gT S' c = gT S c) : g_fx S' n a b c = g_fx S n a b c := by
  have hk : gN S n 1 = 0 ∨ gN S n 1 = 1 ∨ gN S n 1 = 2 ∨ gN S n 1 = 3 ∨ gN S n 1 = 4 ∨ gN S n 1 = 5 ∨ gN S n 1 = 6 ∨ gN S n 1 = 7 ∨ gN S n 1 = 8 ∨ gN S n 1 = 9 ∨ gN S n 1 = 10 ∨ gN S n 1 = 11 ∨ gN S n 1 = 12 ∨ gN S n 1 = 13 ∨ gN S n 1 = 14 ∨ gN S n 1 = 15 ∨ gN S n 1 = 16 ∨ gN S n 1 = 17 ∨ gN S n 1 = 18 := by omega
  rcases hk with hop | hop | hop | hop | hop | hop | hop | hop | hop | hop | hop | hop | hop | hop | hop | hop | hop | hop | hop
  · have eb := eb (by rw [hop]; decide)
    have e2 := e1.trans hop
    unfold g_fx
    rw [hop, e2]
    simp only [ea, eb, eq]
  · have eb := eb (by rw [hop]; decide)
    have e2 := e1.trans hop
    unfold g_fx
    rw [hop, e2]
    simp only [ea, eb, eq]
  · have eb := eb (by rw [hop]; decide)
    have e2 := e1.trans hop
    unfold g_fx
    rw [hop, e2]
    simp only [ea, eb, eq]
  · have eb := eb (by rw [hop]; decide)
    have e2 := e1.trans hop
    unfold g_fx
    rw [hop, e2]
    simp only [ea, eb, eq]
  · have eb := eb (by rw [hop]; decide)
    have e2 := e1.trans hop
    unfold g_fx
    rw [hop, e2]
    simp only [ea, eb, eq]
  · have e2 := e1.trans hop
    unfold g_fx
    rw [hop, e2]
    simp only [ea, eq]
  · have e2 := e1.trans hop
    unfold g_fx
    rw [hop, e2]
    simp only [ea, eq]
  · have e2 := e1.trans hop
    unfold g_fx
    rw [hop, e2]
    simp only [ea, eq]
  · have eb := eb (by rw [hop]; decide)
    have e2 := e1.trans hop
    unfold g_fx
    rw [hop, e2]
    simp only [ea, eb, eq]
  · have eb := eb (by rw [hop]; decide)
    have ec := ec (by rw [hop]; decide)
    have e2 := e1.trans hop
    unfold g_fx
    rw [hop, e2]
    simp only [ea, eb, ec, eq]
    split
    · split <;> rename_i h9
      · cases g_sh (gT S a 0) (max (gT S a 1) (gT S b 1)) (max (gT S a 2) (gT S b 2)) with
        | none => rfl
        | some v => simp only [g_f9, ea, ec]
      · rfl
    · rfl
  · have e2 := e1.trans hop
    unfold g_fx
    rw [hop, e2]
    simp only [ea, eq]
  · have e2 := e1.trans hop
    unfold g_fx
    rw [hop, e2]
    simp only [ea, eq]
  · have e2 := e1.trans hop
    unfold g_fx
    rw [hop, e2]
    simp only [ea, eq]
  · have eb := eb (by rw [hop]; decide)
    have e2 := e1.trans hop
    unfold g_fx
    rw [hop, e2]
    simp only [ea, eb, eq]
  · have e2 := e1.trans hop
    unfold g_fx
    rw [hop, e2]
    simp only [ea, eq]
  · have eb := eb (by rw [hop]; decide)
    have e2 := e1.trans hop
    unfold g_fx
    rw [hop, e2]
    simp only [ea, eb, eq]
  · have eb := eb (by rw [hop]; decide)
    have e2 := e1.trans hop
    unfold g_fx
    rw [hop, e2]
    simp only [ea, eb, eq]
  · have eb := eb (by rw [hop]; decide)
    have ec := ec (by rw [hop]; decide)
    have e2 := e1.trans hop
    unfold g_fx
    rw [hop, e2]
    simp only [ea, eb, ec, eq]
  · have e2 := e1.trans hop
    unfold g_fx
    rw [hop, e2]
    simp only [ea, eq]
