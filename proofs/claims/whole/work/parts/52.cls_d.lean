/-! THE CLASS: the tape; tokens as numbers -/
def hv (D : Nat → Nat) : Nat → Nat
  | 0 => 0
  | m + 1 => 37 * hv D m + D m
theorem hv_inj {D D' : Nat → Nat} : ∀ m m', (∀ j, j < m → 1 ≤ D j ∧ D j ≤ 36) → (∀ j, j < m' → 1 ≤ D' j ∧ D' j ≤ 36) → hv D m = hv D' m' → m = m' ∧ ∀ j, j < m → D j = D' j := by
  intro m
  induction m with
  | zero =>
    intro m' h1 h2 e
    rcases m' with _ | m'
    · exact ⟨rfl, fun j hj => by omega⟩
    · unfold hv at e
      have := h2 m' (by omega)
      omega
  | succ m ih =>
    intro m' h1 h2 e
    rcases m' with _ | m'
    · unfold hv at e
      have := h1 m (by omega)
      omega
    · unfold hv at e
      have a1 := h1 m (by omega)
      have a2 := h2 m' (by omega)
      have e1 : D m = D' m' := by omega
      obtain ⟨q1, q2⟩ := ih m' (fun j hj => h1 j (by omega)) (fun j hj => h2 j (by omega)) (by omega)
      subst q1
      refine ⟨rfl, fun j hj => ?_⟩
      by_cases ej : j = m
      · subst ej; exact e1
      · exact q2 j (by omega)
theorem hv_cg {D D' : Nat → Nat} : ∀ m, (∀ j, j < m → D j = D' j) → hv D m = hv D' m := by
  intro m
  induction m with
  | zero => intro _; rfl
  | succ m ih => intro h; unfold hv; rw [ih (fun j hj => h j (by omega)), h m (by omega)]
theorem wvL_hv {T : Nat → Nat} {k : Nat} : ∀ m, m ≤ 8 → wvL T k m = hv (fun j => T (k + j) - 96) m := by
  intro m
  induction m with
  | zero => intro _; rfl
  | succ m ih => intro h; unfold wvL hv; rw [if_pos (by omega), ih (by omega)]
def wdv (w : Nat) : Nat := [519931663, 1176170, 1891, 1633, 5538, 444789672, 30047016, 1402353114].getD w 0
theorem wdv_hv : ∀ w : Fin 8, hv (fun j => (sBy.getD w.val []).getD j 0 - 96) (sLen.getD w.val 0) = wdv w.val := by decide +kernel
theorem sBy_ge : ∀ w : Fin 8, ∀ j : Fin 6, j.val < sLen.getD w.val 0 → 97 ≤ (sBy.getD w.val []).getD j.val 0 ∧ (sBy.getD w.val []).getD j.val 0 ≤ 122 := by decide +kernel
/-- a word is spelt -/
def spl (T : Nat → Nat) (k e w : Nat) : Bool := (e - k == sLen.getD w 0) && allN (fun j => T (k + j) == (sBy.getD w []).getD j 0) (sLen.getD w 0)
theorem spl_wv {T : Nat → Nat} {k e w : Nat} (hw : w < 8) (hl : e - k ≤ 8) (hc : ∀ j, k ≤ j → j < e → chL (T j) = true) : spl T k e w = (wvL T k (e - k) == wdv w) := by
  have hs := (sBy_lt ⟨w, hw⟩ ⟨0, by omega⟩).2
  simp only at hs
  have hd : ∀ j, j < e - k → 1 ≤ T (k + j) - 96 ∧ T (k + j) - 96 ≤ 36 := by
    intro j hj
    have := hc (k + j) (by omega) (by omega)
    simp [chL] at this
    omega
  have hd2 : ∀ j, j < sLen.getD w 0 → 97 ≤ (sBy.getD w []).getD j 0 ∧ (sBy.getD w []).getD j 0 ≤ 122 := fun j hj => sBy_ge ⟨w, hw⟩ ⟨j, by omega⟩ hj
  rw [wvL_hv _ hl, ← wdv_hv ⟨w, hw⟩]
  unfold spl
  by_cases q : hv (fun j => T (k + j) - 96) (e - k) = hv (fun j => (sBy.getD w []).getD j 0 - 96) (sLen.getD w 0)
  · obtain ⟨q1, q2⟩ := hv_inj _ _ hd (fun j hj => by have := hd2 j hj; omega) q
    simp only [q, BEq.rfl]
    rw [q1, BEq.rfl, Bool.true_and]
    refine (allN_iff _ _).mpr (fun j hj => ?_)
    have h1 := q2 j (by omega)
    have h2 := hd2 j hj
    have h3 := hd j (by omega)
    rw [beq_iff_eq]
    omega
  · rw [beq_false_of_ne q]
    by_cases q1 : e - k = sLen.getD w 0
    · rw [q1, BEq.rfl, Bool.true_and]
      rcases ha : allN (fun j => T (k + j) == (sBy.getD w []).getD j 0) (sLen.getD w 0)
      · rfl
      · exfalso
        apply q
        rw [q1]
        refine hv_cg _ (fun j hj => ?_)
        have := (allN_iff _ _).mp ha j hj
        rw [beq_iff_eq] at this
        rw [this]
    · rw [beq_false_of_ne q1, Bool.false_and]
/-- a token as the class has it -/
def tkI (c : Nat) : Int32 := if 17 ≤ c then nI (c - 17) else if c = 0 then -16 else if c = 1 then -11 else if c = 2 then -12 else if c = 3 then -10 else if c ≤ 8 then -(nI (c - 3)) else if c = 9 then -13 else if c = 10 then -14 else if c = 11 then -15 else if c = 12 then -9 else if c = 13 then -8 else if c = 14 then -6 else if c = 15 then -7 else -17
theorem tkI_inj : ∀ c c' : Nat, c < 10017 → c' < 17 → (tkI c = tkI c' ↔ c = c') := by
  intro c c' h1 h2
  by_cases h : 17 ≤ c
  · constructor
    · intro e
      exfalso
      have e1 : tkI c = nI (c - 17) := by unfold tkI; rw [if_pos h]
      rw [e1] at e
      have hn : ¬ nI (c - 17) < 0 := nI_pos (by omega)
      rw [e] at hn
      have : ∀ k : Fin 17, tkI k.val < 0 := by decide
      exact hn (this ⟨c', h2⟩)
    · omega
  · have : ∀ k k' : Fin 17, (tkI k.val = tkI k'.val ↔ k.val = k'.val) := by decide +kernel
    exact this ⟨c, by omega⟩ ⟨c', h2⟩
theorem tkI_neg : ∀ c : Nat, c < 10017 → (tkI c < 0 ↔ c < 17) := by
  intro c h
  by_cases h1 : 17 ≤ c
  · have e1 : tkI c = nI (c - 17) := by unfold tkI; rw [if_pos h1]
    rw [e1]
    have := nI_pos (n := c - 17) (by omega)
    constructor
    · intro q; exact absurd q this
    · omega
  · have : ∀ k : Fin 17, tkI k.val < 0 := by decide
    exact ⟨fun _ => by omega, fun _ => this ⟨c, by omega⟩⟩
theorem tkI_opd : ∀ c : Nat, c < 10017 → (-5 ≤ tkI c ↔ isOpd c) := by
  intro c h
  by_cases h1 : 17 ≤ c
  · have e1 : tkI c = nI (c - 17) := by unfold tkI; rw [if_pos h1]
    rw [e1]
    have : (-5 : Int32) ≤ nI (c - 17) := Int32.le_of_lt (Int32.lt_of_lt_of_le (b := nI 0) (by decide) ((nI_leI (by omega) (by omega)).mpr (by omega)))
    exact ⟨fun _ => Or.inr h1, fun _ => this⟩
  · have : ∀ k : Fin 17, (-5 ≤ tkI k.val ↔ isOpd k.val) := by decide
    exact this ⟨c, by omega⟩
