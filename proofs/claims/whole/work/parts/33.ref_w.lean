/-! the reference: the reader's state as lists -/
def cdL (a : Nat → Nat → Nat) (p : Nat) (cd : List (Nat × Nat)) : Prop := ∀ k, k < cd.length → a 13 (p + k) = (cd.getD k (0, 0)).1 ∧ a 14 (p + k) = (cd.getD k (0, 0)).2
def stk (a : Nat → Nat → Nat) : List (Nat × Nat × Nat) → Prop
  | [] => True
  | t :: r => a 19 r.length = t.1 ∧ a 20 r.length = t.2.1 ∧ a 21 r.length = t.2.2 ∧ stk a r
def nz (u : Nat) : Nat := if u = 0 then 0 else 1
def nwS : List (Nat × Nat × Nat) → Nat
  | [] => 0
  | t :: r => nz t.1 + nz t.2.1 + nz t.2.2 + nwS r
/-- what an expression leaves as it was -/
def FE (q : Nat) (s0 : Nat → Nat) (a0 : Nat → Nat → Nat) (s : Nat → Nat) (a : Nat → Nat → Nat) : Prop := (∀ k, k ≠ 7 → k ≠ 8 → k ≠ 17 → k ≠ 18 → s k = s0 k) ∧ (∀ e j, e ≠ 13 → e ≠ 14 → e ≠ 19 → e ≠ 20 → e ≠ 21 → a e j = a0 e j) ∧ (∀ e j, e = 13 ∨ e = 14 → (j < 660 * q ∨ 660 * q + 660 ≤ j) → a e j = a0 e j)
def XR (q : Nat) (s0 : Nat → Nat) (a0 : Nat → Nat → Nat) (i : Nat) (cd : List (Nat × Nat)) (w : List (Nat × Nat × Nat)) (s : Nat → Nat) (a : Nat → Nat → Nat) : Prop := FE q s0 a0 s a ∧ s 7 = i ∧ s 8 = 0 ∧ s 17 = cd.length ∧ s 18 + 1 = w.length ∧ cdL a (660 * q) cd ∧ stk a w ∧ s 16 = q
/-- the bounds -/
def BD (nE i : Nat) (cd : List (Nat × Nat)) (w : List (Nat × Nat × Nat)) : Prop := cd.length + nwS w ≤ i ∧ i ≤ nE ∧ w.length ≤ 6
theorem stk_cg {a b : Nat → Nat → Nat} : ∀ {w : List (Nat × Nat × Nat)}, (∀ e j, e = 19 ∨ e = 20 ∨ e = 21 → j < w.length → b e j = a e j) → stk a w → stk b w := by
  intro w
  induction w with
  | nil => intro _ _; trivial
  | cons t r ih =>
    intro h k
    simp only [List.length_cons] at h
    refine ⟨?_, ?_, ?_, ih (fun e j he hj => h e j he (by omega)) k.2.2.2⟩
    · rw [h 19 _ (by omega) (by omega)]; exact k.1
    · rw [h 20 _ (by omega) (by omega)]; exact k.2.1
    · rw [h 21 _ (by omega) (by omega)]; exact k.2.2.1
theorem gD_sn {α : Type} (M : List α) (k z : α) (j : Nat) : (M ++ [k]).getD j z = if j = M.length then k else M.getD j z := by
  rcases Nat.lt_trichotomy j M.length with h | h | h
  · rw [if_neg (by omega), List.getD_eq_getElem?_getD, List.getD_eq_getElem?_getD, List.getElem?_append_left h]
  · subst h
    simp
  · rw [if_neg (by omega), List.getD_eq_getElem?_getD, List.getD_eq_getElem?_getD, List.getElem?_eq_none (by simp; omega), List.getElem?_eq_none (by omega)]
section REFW
variable {q i : Nat} {s0 : Nat → Nat} {a0 : Nat → Nat → Nat} {cd : List (Nat × Nat)} {w : List (Nat × Nat × Nat)} {s : Nat → Nat} {a : Nat → Nat → Nat}
theorem XR.fe (x : XR q s0 a0 i cd w s a) : FE q s0 a0 s a := x.1
theorem XR.e7 (x : XR q s0 a0 i cd w s a) : s 7 = i := x.2.1
theorem XR.e8 (x : XR q s0 a0 i cd w s a) : s 8 = 0 := x.2.2.1
theorem XR.e17 (x : XR q s0 a0 i cd w s a) : s 17 = cd.length := x.2.2.2.1
theorem XR.e18 (x : XR q s0 a0 i cd w s a) : s 18 + 1 = w.length := x.2.2.2.2.1
theorem XR.cdl (x : XR q s0 a0 i cd w s a) : cdL a (660 * q) cd := x.2.2.2.2.2.1
theorem XR.st (x : XR q s0 a0 i cd w s a) : stk a w := x.2.2.2.2.2.2.1
theorem XR.e16 (x : XR q s0 a0 i cd w s a) : s 16 = q := x.2.2.2.2.2.2.2
theorem FE.te {C P : Nat → Nat} {nE : Nat} (f : FE q s0 a0 s a) (t : TE C P nE a0) : TE C P nE a := by
  obtain ⟨_, f2, _⟩ := f
  have h4 := fun j => f2 4 j (by decide) (by decide) (by decide) (by decide) (by decide)
  have h5 := fun j => f2 5 j (by decide) (by decide) (by decide) (by decide) (by decide)
  have h6 := fun j => f2 6 j (by decide) (by decide) (by decide) (by decide) (by decide)
  have h9 := fun j => f2 9 j (by decide) (by decide) (by decide) (by decide) (by decide)
  unfold TE
  simp only [h4, h5, h6, h9]
  exact t
theorem FE.I7 (f : FE q s0 a0 s a) (v : Nat) : FE q s0 a0 (va_up s 7 v) a := ⟨fun k h1 h2 h3 h4 => by rw [va_up_eq, if_neg h1]; exact f.1 k h1 h2 h3 h4, f.2⟩
theorem FE.I8 (f : FE q s0 a0 s a) (v : Nat) : FE q s0 a0 (va_up s 8 v) a := ⟨fun k h1 h2 h3 h4 => by rw [va_up_eq, if_neg h2]; exact f.1 k h1 h2 h3 h4, f.2⟩
theorem FE.I17 (f : FE q s0 a0 s a) (v : Nat) : FE q s0 a0 (va_up s 17 v) a := ⟨fun k h1 h2 h3 h4 => by rw [va_up_eq, if_neg h3]; exact f.1 k h1 h2 h3 h4, f.2⟩
theorem FE.I18 (f : FE q s0 a0 s a) (v : Nat) : FE q s0 a0 (va_up s 18 v) a := ⟨fun k h1 h2 h3 h4 => by rw [va_up_eq, if_neg h4]; exact f.1 k h1 h2 h3 h4, f.2⟩
theorem FE.W (f : FE q s0 a0 s a) {e : Nat} (j v : Nat) (he : e = 19 ∨ e = 20 ∨ e = 21) : FE q s0 a0 s (up2 a e j v) := ⟨f.1, fun e' j' h1 h2 h3 h4 h5 => by rw [up2_eq, if_neg (by omega)]; exact f.2.1 e' j' h1 h2 h3 h4 h5, fun e' j' h1 h2 => by rw [up2_eq, if_neg (by omega)]; exact f.2.2 e' j' h1 h2⟩
theorem FE.O (f : FE q s0 a0 s a) {e : Nat} (j v : Nat) (he : e = 13 ∨ e = 14) (hj : 660 * q ≤ j ∧ j < 660 * q + 660) : FE q s0 a0 s (up2 a e j v) := ⟨f.1, fun e' j' h1 h2 h3 h4 h5 => by rw [up2_eq, if_neg (by omega)]; exact f.2.1 e' j' h1 h2 h3 h4 h5, fun e' j' h1 h2 => by rw [up2_eq, if_neg (by omega)]; exact f.2.2 e' j' h1 h2⟩
theorem XR.at (x : XR q s0 a0 i cd w s a) (j : Nat) : XR q s0 a0 j cd w (va_up s 7 j) a := ⟨x.fe.I7 j, by rw [va_up_eq, if_pos rfl], by rw [va_up_eq, if_neg (by decide)]; exact x.e8, by rw [va_up_eq, if_neg (by decide)]; exact x.e17, by rw [va_up_eq, if_neg (by decide)]; exact x.e18, x.cdl, x.st, by rw [va_up_eq, if_neg (by decide)]; exact x.e16⟩
theorem XR.em (x : XR q s0 a0 i cd w s a) (c v : Nat) (hl : cd.length < 660) : XR q s0 a0 i (cd ++ [(c, v)]) w (va_up s 17 (s 17 + 1)) (up2 (up2 a 13 (660 * s 16 + s 17) c) 14 (660 * s 16 + s 17) v) := by
  rw [x.e16, x.e17]
  refine ⟨((x.fe.I17 _).O _ _ (by omega) (by omega)).O _ _ (by omega) (by omega), by rw [va_up_eq, if_neg (by decide)]; exact x.e7, by rw [va_up_eq, if_neg (by decide)]; exact x.e8, by rw [va_up_eq, if_pos rfl]; simp, by rw [va_up_eq, if_neg (by decide)]; exact x.e18, fun k hk => ?_, stk_cg (fun e j he _ => by rw [up2_eq, up2_eq, if_neg (by omega), if_neg (by omega)]) x.st, by rw [va_up_eq, if_neg (by decide)]; exact x.e16⟩
  simp only [List.length_append, List.length_cons, List.length_nil] at hk
  rw [gD_sn]
  simp only [up2_eq]
  by_cases e : k = cd.length
  · subst e; simp
  · have := x.cdl k (by omega)
    simp [e, this]
theorem XR.w1 {u g n : Nat} {r : List (Nat × Nat × Nat)} (x : XR q s0 a0 i cd ((u, g, n) :: r) s a) (v : Nat) : XR q s0 a0 i cd ((v, g, n) :: r) s (up2 a 19 r.length v) := by
  refine ⟨x.fe.W _ _ (by omega), x.e7, x.e8, x.e17, x.e18, fun k hk => ?_, ⟨by simp [up2_eq], by simp only [up2_eq]; simpa using x.st.2.1, by simp only [up2_eq]; simpa using x.st.2.2.1, stk_cg (fun e j he hj => by rw [up2_eq, if_neg (by omega)]) x.st.2.2.2⟩, x.e16⟩
  simp only [up2_eq]
  simpa using x.cdl k hk
theorem XR.w2 {u g n : Nat} {r : List (Nat × Nat × Nat)} (x : XR q s0 a0 i cd ((u, g, n) :: r) s a) (v : Nat) : XR q s0 a0 i cd ((u, v, n) :: r) s (up2 a 20 r.length v) := by
  refine ⟨x.fe.W _ _ (by omega), x.e7, x.e8, x.e17, x.e18, fun k hk => ?_, ⟨by simp only [up2_eq]; simpa using x.st.1, by simp [up2_eq], by simp only [up2_eq]; simpa using x.st.2.2.1, stk_cg (fun e j he hj => by rw [up2_eq, if_neg (by omega)]) x.st.2.2.2⟩, x.e16⟩
  simp only [up2_eq]
  simpa using x.cdl k hk
theorem XR.w3 {u g n : Nat} {r : List (Nat × Nat × Nat)} (x : XR q s0 a0 i cd ((u, g, n) :: r) s a) (v : Nat) : XR q s0 a0 i cd ((u, g, v) :: r) s (up2 a 21 r.length v) := by
  refine ⟨x.fe.W _ _ (by omega), x.e7, x.e8, x.e17, x.e18, fun k hk => ?_, ⟨by simp only [up2_eq]; simpa using x.st.1, by simp only [up2_eq]; simpa using x.st.2.1, by simp [up2_eq], stk_cg (fun e j he hj => by rw [up2_eq, if_neg (by omega)]) x.st.2.2.2⟩, x.e16⟩
  simp only [up2_eq]
  simpa using x.cdl k hk
theorem XR.pop {t t2 : Nat × Nat × Nat} {r : List (Nat × Nat × Nat)} (x : XR q s0 a0 i cd (t :: t2 :: r) s a) : XR q s0 a0 i cd (t2 :: r) (va_up s 18 (s 18 - 1)) a := by
  have h := x.e18
  simp only [List.length_cons] at h
  refine ⟨x.fe.I18 _, by rw [va_up_eq, if_neg (by decide)]; exact x.e7, by rw [va_up_eq, if_neg (by decide)]; exact x.e8, by rw [va_up_eq, if_neg (by decide)]; exact x.e17, by rw [va_up_eq, if_pos rfl]; simp only [List.length_cons]; omega, x.cdl, x.st.2.2.2, by rw [va_up_eq, if_neg (by decide)]; exact x.e16⟩
/-- opens() at the place of 'deep' -/
theorem XR.push (x : XR q s0 a0 i cd w s a) : XR q s0 a0 i cd ((0, 0, 0) :: w) (va_up s 18 (s 18 + 1)) (up2 (up2 (up2 a 19 (s 18 + 1) 0) 20 (s 18 + 1) 0) 21 (s 18 + 1) 0) := by
  have h := x.e18
  rw [h]
  refine ⟨((((x.fe.I18 _).W _ _ (by omega)).W _ _ (by omega)).W _ _ (by omega)), by rw [va_up_eq, if_neg (by decide)]; exact x.e7, by rw [va_up_eq, if_neg (by decide)]; exact x.e8, by rw [va_up_eq, if_neg (by decide)]; exact x.e17, by rw [va_up_eq, if_pos rfl]; simp, fun k hk => ?_, ⟨by simp [up2_eq], by simp [up2_eq], by simp [up2_eq], stk_cg (fun e j he hj => by rw [up2_eq, up2_eq, up2_eq, if_neg (by omega), if_neg (by omega), if_neg (by omega)]) x.st⟩, by rw [va_up_eq, if_neg (by decide)]; exact x.e16⟩
  simp only [up2_eq]
  simpa using x.cdl k hk
end REFW
