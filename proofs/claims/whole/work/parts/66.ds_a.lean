/-! THE COUPLING: cells by role, frames by role -/
def SAM (h h' : gHp) (b : Nat) : Prop := hK h' b = hK h b ∧ hN h' b = hN h b ∧ (∀ c k, hI h' c k b = hI h c k b) ∧ (∀ c k, hR h' c k b = hR h c k b) ∧ (∀ t, hA h' t b = hA h t b) ∧ (∀ t, hJ h' t b = hJ h t b) ∧ hO h' b = hO h b
theorem SAM.rf (h : gHp) (b : Nat) : SAM h h b := ⟨rfl, rfl, fun _ _ => rfl, fun _ _ => rfl, fun _ => rfl, fun _ => rfl, rfl⟩
theorem SAM.tr {h h1 h2 : gHp} {b : Nat} (p : SAM h h1 b) (q : SAM h1 h2 b) : SAM h h2 b := ⟨q.1.trans p.1, q.2.1.trans p.2.1, fun c k => (q.2.2.1 c k).trans (p.2.2.1 c k), fun c k => (q.2.2.2.1 c k).trans (p.2.2.2.1 c k), fun t => (q.2.2.2.2.1 t).trans (p.2.2.2.2.1 t), fun t => (q.2.2.2.2.2.1 t).trans (p.2.2.2.2.2.1 t), q.2.2.2.2.2.2.trans p.2.2.2.2.2.2⟩
abbrev gTag : Type := Nat × Nat × Nat
abbrev tch (I R : List (Nat × Nat × Nat)) (A : List (Nat × Nat)) (O : List Nat) : List Nat := I.map (fun q => q.2.2) ++ (R.map (fun q => q.2.2) ++ (A.map (fun q => q.2) ++ O))
/-- old cells whose tag is not in T are as before -/
def FRO (ow : Nat → gTag) (T : List gTag) (h h' : gHp) : Prop := (∀ b, hK h b ≠ 0 → hK h' b = hK h b ∧ hN h' b = hN h b) ∧ ∀ b, hK h b ≠ 0 → ¬ ow b ∈ T → SAM h h' b
section FROS
variable {ow ow' : Nat → gTag} {T U : List gTag} {h h1 h2 : gHp} {I R : List (Nat × Nat × Nat)} {A : List (Nat × Nat)} {O : List Nat}
theorem FRO.rf (h : gHp) : FRO ow T h h := ⟨fun _ _ => ⟨rfl, rfl⟩, fun b _ _ => SAM.rf h b⟩
theorem FRO.up (p : FRO ow T h h1) (hT : ∀ q, q ∈ T → q ∈ U) : FRO ow U h h1 := ⟨p.1, fun b hb hn => p.2 b hb (fun e => hn (hT _ e))⟩
theorem FRO.tr (p : FRO ow T h h1) (q : FRO ow' T h1 h2) (ho : ∀ b, hK h b ≠ 0 → ow' b = ow b) : FRO ow T h h2 := by
  have k : ∀ b, hK h b ≠ 0 → hK h1 b ≠ 0 := fun b hb => by rw [(p.1 b hb).1]; exact hb
  exact ⟨fun b hb => ⟨(q.1 b (k b hb)).1.trans (p.1 b hb).1, (q.1 b (k b hb)).2.trans (p.1 b hb).2⟩, fun b hb hn => (p.2 b hb hn).tr (q.2 b (k b hb) (by rw [ho b hb]; exact hn))⟩
theorem FRO.t2 (p : FRO ow T h h1) (q : FRO ow T h1 h2) : FRO ow T h h2 := p.tr q (fun _ _ => rfl)
theorem FRA.fro (p : FRA I R A O h h1) (hT : ∀ y, y ∈ tch I R A O → ow y ∈ T) : FRO ow T h h1 := by
  refine ⟨p.1, fun b hb hn => ⟨(p.1 b hb).1, (p.1 b hb).2, fun c k => p.2.1 c k b hb (fun e => hn (hT b ?_)), fun c k => p.2.2.1 c k b hb (fun e => hn (hT b ?_)), fun t => p.2.2.2.1 t b hb (fun e => hn (hT b ?_)), fun t => p.2.2.2.2.1 t b hb, p.2.2.2.2.2 b hb (fun e => hn (hT b ?_))⟩⟩
  · exact List.mem_append.mpr (Or.inl (List.mem_map.mpr ⟨_, e, rfl⟩))
  · exact List.mem_append.mpr (Or.inr (List.mem_append.mpr (Or.inl (List.mem_map.mpr ⟨_, e, rfl⟩))))
  · exact List.mem_append.mpr (Or.inr (List.mem_append.mpr (Or.inr (List.mem_append.mpr (Or.inl (List.mem_map.mpr ⟨_, e, rfl⟩))))))
  · exact List.mem_append.mpr (Or.inr (List.mem_append.mpr (Or.inr (List.mem_append.mpr (Or.inr e)))))
theorem FRM.fro (p : FRM I A h h1) (hT : ∀ y, y ∈ tch I [] A [] → ow y ∈ T) : FRO ow T h h1 := p.fra.fro hT
/-- single writes -/
theorem FRO.sI (p : FRO ow T h h1) {c k b : Nat} {v : Int32} (hm : ow b ∈ T ∨ hK h b = 0) : FRO ow T h (sI h1 c k b v) := ⟨p.1, fun y hy hn => by
  obtain ⟨a1, a2, a3, a4, a5, a6, a7⟩ := p.2 y hy hn
  refine ⟨a1, a2, fun c' k' => ?_, a4, a5, a6, a7⟩
  rw [hI_sI, up3_eq, if_neg (fun e => by rcases hm with q | q; exact hn (by rw [e.2.2]; exact q); exact hy (by rw [e.2.2]; exact q))]
  exact a3 c' k'⟩
theorem FRO.sR (p : FRO ow T h h1) {c k b : Nat} {v : Option Nat} (hm : ow b ∈ T ∨ hK h b = 0) : FRO ow T h (sR h1 c k b v) := ⟨p.1, fun y hy hn => by
  obtain ⟨a1, a2, a3, a4, a5, a6, a7⟩ := p.2 y hy hn
  refine ⟨a1, a2, a3, fun c' k' => ?_, a5, a6, a7⟩
  rw [hR_sR, up3_eq, if_neg (fun e => by rcases hm with q | q; exact hn (by rw [e.2.2]; exact q); exact hy (by rw [e.2.2]; exact q))]
  exact a4 c' k'⟩
theorem FRO.sA (p : FRO ow T h h1) {t b : Nat} {f : Nat → Int32} (hm : ow b ∈ T ∨ hK h b = 0) : FRO ow T h (sA h1 t b f) := ⟨p.1, fun y hy hn => by
  obtain ⟨a1, a2, a3, a4, a5, a6, a7⟩ := p.2 y hy hn
  refine ⟨a1, a2, a3, a4, fun t' => ?_, a6, a7⟩
  rw [hA_sA, up2_eq, if_neg (fun e => by rcases hm with q | q; exact hn (by rw [e.2]; exact q); exact hy (by rw [e.2]; exact q))]
  exact a5 t'⟩
theorem FRO.nO (p : FRO ow T h h1) {t b : Nat} (h0 : hK h1 b = 0) : FRO ow T h (nO h1 t b) := by
  have e : ∀ y, hK h y ≠ 0 → y ≠ b := fun y hy q => by rw [q] at hy; rw [← (p.1 b hy).1] at hy; exact hy h0
  refine ⟨fun y hy => ?_, fun y hy hn => ?_⟩
  · rw [hK_nO, va_up_eq, if_neg (e y hy)]
    exact p.1 y hy
  · obtain ⟨a1, a2, a3, a4, a5, a6, a7⟩ := p.2 y hy hn
    refine ⟨by rw [hK_nO, va_up_eq, if_neg (e y hy)]; exact a1, a2, fun c k => ?_, fun c k => ?_, a5, a6, a7⟩
    · show (if c = t ∧ y = b then 0 else hI h1 c k y) = _
      rw [if_neg (fun q => e y hy q.2)]
      exact a3 c k
    · show (if c = t ∧ y = b then none else hR h1 c k y) = _
      rw [if_neg (fun q => e y hy q.2)]
      exact a4 c k
theorem FRO.nA (p : FRO ow T h h1) {t b n : Nat} (h0 : hK h1 b = 0) : FRO ow T h (nA h1 t b n) := by
  have e : ∀ y, hK h y ≠ 0 → y ≠ b := fun y hy q => by rw [q] at hy; rw [← (p.1 b hy).1] at hy; exact hy h0
  refine ⟨fun y hy => ?_, fun y hy hn => ?_⟩
  · rw [hK_nA, hN_nA, va_up_eq, va_up_eq, if_neg (e y hy), if_neg (e y hy)]
    exact p.1 y hy
  · obtain ⟨a1, a2, a3, a4, a5, a6, a7⟩ := p.2 y hy hn
    refine ⟨by rw [hK_nA, va_up_eq, if_neg (e y hy)]; exact a1, by rw [hN_nA, va_up_eq, if_neg (e y hy)]; exact a2, a3, a4, fun t' => ?_, fun t' => ?_, ?_⟩
    · rw [hA_nA, up2_eq, if_neg (fun q => e y hy q.2)]; exact a5 t'
    · rw [hJ_nA, up2_eq, if_neg (fun q => e y hy q.2)]; exact a6 t'
    · rw [hO_nA, va_up_eq, if_neg (e y hy)]; exact a7
end FROS
/-- how many of the first n, and which is the j-th -/
def nthN (f : Nat → Bool) : Nat → Nat → Nat
  | 0, _ => 0
  | n + 1, j => if f n = true ∧ j = cntN f n then n else nthN f n j
theorem nthN_lt (f : Nat → Bool) : ∀ n j, j < cntN f n → nthN f n j < n ∧ f (nthN f n j) = true := by
  intro n
  induction n with
  | zero => intro j h; simp [cntN] at h
  | succ n ih =>
    intro j h
    unfold cntN at h
    unfold nthN
    by_cases e : f n = true ∧ j = cntN f n
    · rw [if_pos e]; exact ⟨by omega, e.1⟩
    · rw [if_neg e]
      have h2 : j < cntN f n := by
        by_cases q : f n = true
        · rw [if_pos q] at h
          have : ¬ j = cntN f n := fun w => e ⟨q, w⟩
          omega
        · rw [if_neg q] at h; omega
      have := ih j h2
      exact ⟨by omega, this.2⟩
theorem anyN_nth (f F : Nat → Bool) : ∀ n, anyN (fun j => F (nthN f n j)) (cntN f n) = anyN (fun g => f g && F g) n := by
  intro n
  induction n with
  | zero => rfl
  | succ n ih =>
    have cg : anyN (fun j => F (nthN f (n + 1) j)) (cntN f n) = anyN (fun j => F (nthN f n j)) (cntN f n) := by
      apply Bool.eq_iff_iff.mpr
      rw [anyN_iff, anyN_iff]
      constructor
      · rintro ⟨i, h1, h2⟩
        refine ⟨i, h1, ?_⟩
        simp only [nthN] at h2
        rw [if_neg (fun q => by omega)] at h2
        exact h2
      · rintro ⟨i, h1, h2⟩
        refine ⟨i, h1, ?_⟩
        simp only [nthN]
        rw [if_neg (fun q => by omega)]
        exact h2
    by_cases q : f n = true
    · have e1 : cntN f (n + 1) = cntN f n + 1 := by simp [cntN, q]
      rw [e1]
      show (anyN (fun j => F (nthN f (n + 1) j)) (cntN f n) || F (nthN f (n + 1) (cntN f n))) = (anyN (fun g => f g && F g) n || (f n && F n))
      rw [cg, ih, q, Bool.true_and]
      congr 1
      simp [nthN, q]
    · have e1 : cntN f (n + 1) = cntN f n := by simp [cntN, q]
      rw [e1]
      show anyN (fun j => F (nthN f (n + 1) j)) (cntN f n) = (anyN (fun g => f g && F g) n || (f n && F n))
      rw [cg, ih, Bool.eq_false_iff.mpr q]
      simp
theorem cntN_cg {f g : Nat → Bool} : ∀ {n : Nat}, (∀ i, i < n → f i = g i) → cntN f n = cntN g n := by
  intro n
  induction n with
  | zero => intro _; rfl
  | succ n ih => intro h; unfold cntN; rw [ih (fun i hi => h i (by omega)), h n (by omega)]
theorem nthN_cg {f g : Nat → Bool} : ∀ {n : Nat}, (∀ i, i < n → f i = g i) → nthN f n = nthN g n := by
  intro n
  induction n with
  | zero => intro _; rfl
  | succ n ih =>
    intro h
    funext j
    unfold nthN
    rw [ih (fun i hi => h i (by omega)), h n (by omega), cntN_cg (fun i hi => h i (by omega))]
theorem anyN_cg {f g : Nat → Bool} {n : Nat} (h : ∀ i, i < n → f i = g i) : anyN f n = anyN g n := by
  apply Bool.eq_iff_iff.mpr
  rw [anyN_iff, anyN_iff]
  exact ⟨fun ⟨i, h1, h2⟩ => ⟨i, h1, by rw [← h i h1]; exact h2⟩, fun ⟨i, h1, h2⟩ => ⟨i, h1, by rw [h i h1]; exact h2⟩⟩
theorem allN_cg {f g : Nat → Bool} {n : Nat} (h : ∀ i, i < n → f i = g i) : allN f n = allN g n := by
  apply Bool.eq_iff_iff.mpr
  rw [allN_iff, allN_iff]
  exact ⟨fun q i hi => by rw [← h i hi]; exact q i hi, fun q i hi => by rw [h i hi]; exact q i hi⟩
theorem cntN_0 {f : Nat → Bool} {n : Nat} (h : ∀ i, i < n → f i = false) : cntN f n = 0 := by
  induction n with
  | zero => rfl
  | succ n ih => unfold cntN; rw [ih (fun i hi => h i (by omega)), h n (by omega)]; rfl
/-- pages of a paper -/
def pgN (s : Nat → Nat) (a : Nat → Nat → Nat) (p : Nat) : Nat := cntN (fun g => a 32 g == p) (s 31)
def pgO (s : Nat → Nat) (a : Nat → Nat → Nat) (p j : Nat) : Nat := nthN (fun g => a 32 g == p) (s 31) j
/-- which cells the desk has -/
def vld (s : Nat → Nat) (a : Nat → Nat → Nat) : Nat → Nat → Nat → Prop
  | 0, i, k => k = 0 ∧ (i = 0 ∨ i = 1 ∨ i = 3 ∨ i = 5 ∨ i = 6 ∨ i = 7 ∨ i = 8 ∨ i = 9)
  | 1, i, k => k = 0 ∧ (i = 5 ∧ 0 < s 27 ∨ i = 6 ∧ 0 < s 31 ∨ i = 7 ∧ 0 < s 36 ∨ i = 8 ∧ 0 < s 46 ∨ i = 9 ∧ 0 < s 57)
  | 2, i, k => i < s 27 ∧ (k = 0 ∨ k = 3 ∨ k = 1 ∧ 0 < pgN s a i)
  | 3, i, k => i < s 31 ∧ k = 0
  | 4, i, k => i < s 36 ∧ (k = 0 ∨ k = 1 ∨ k = 4 ∨ k = 5 ∨ k = 6)
  | 5, i, k => i < s 46 ∧ (k = 0 ∨ k = 5)
  | 6, i, k => i < s 57 ∧ (k = 0 ∨ k = 4)
  | 7, i, k => i = 0 ∧ (k = 0 ∨ k = 2 ∨ k = 3 ∨ k = 4)
  | 8, i, k => i ≤ 1 ∧ (k = 0 ∨ k = 1 ∨ k = 2 ∨ k = 3 ∨ k = 5)
  | _, _, _ => False
abbrev gYm : Type := Nat → Nat → Nat → Nat
def OWN (Y : gYm) (ow : Nat → gTag) (h : gHp) (s : Nat → Nat) (a : Nat → Nat → Nat) : Prop := ∀ r i k, vld s a r i k → hK h (Y r i k) ≠ 0 ∧ ow (Y r i k) = (r, i, k)
section OWNS
variable {Y : gYm} {ow : Nat → gTag} {T : List gTag} {h h' : gHp} {s : Nat → Nat} {a : Nat → Nat → Nat}
theorem OWN.sam (own : OWN Y ow h s a) (hf : FRO ow T h h') {r i k : Nat} (hv : vld s a r i k) (hT : ¬ (r, i, k) ∈ T) : SAM h h' (Y r i k) := hf.2 _ (own r i k hv).1 (by rw [(own r i k hv).2]; exact hT)
theorem OWN.knd (own : OWN Y ow h s a) (hf : FRO ow T h h') {r i k : Nat} (hv : vld s a r i k) : hK h' (Y r i k) = hK h (Y r i k) ∧ hN h' (Y r i k) = hN h (Y r i k) := hf.1 _ (own r i k hv).1
theorem OWN.ne (own : OWN Y ow h s a) {r i k r' i' k' : Nat} (hv : vld s a r i k) (hv' : vld s a r' i' k') (hn : ¬ (r = r' ∧ i = i' ∧ k = k')) : ¬ Y r i k = Y r' i' k' := fun e => hn (by
  have h1 := (own r i k hv).2
  rw [e, (own r' i' k' hv').2] at h1
  simp only [Prod.mk.injEq] at h1
  exact ⟨h1.1.symm, h1.2.1.symm, h1.2.2.symm⟩)
theorem OWN.F (own : OWN Y ow h s a) (hf : FRO ow T h h') : OWN Y ow h' s a := fun r i k hv => ⟨by rw [(own.knd hf hv).1]; exact (own r i k hv).1, (own r i k hv).2⟩
end OWNS
