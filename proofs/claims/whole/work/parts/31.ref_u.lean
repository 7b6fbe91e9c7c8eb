/-! the rules' language: tokens, reading by descent, and what any machine with waiting signs does -/
def tkW (v : Nat) : Nat := if v = 519931663 then 1 else if v = 1176170 then 2 else if v = 1891 then 3 else if v = 1633 then 4 else if v = 5538 then 5 else if v = 444789672 then 6 else if v = 30047016 then 7 else if v = 1402353114 then 8 else 16
def tkG (c : Nat) : Nat := if c = 40 then 9 else if c = 41 then 10 else if c = 59 then 11 else if c = 61 then 12 else if c = 60 then 13 else if c = 43 then 14 else if c = 45 then 15 else 16
def tkc (so v : Nat) : Nat := if so = 0 then 0 else if so = 1 then tkW v else if so = 2 then 17 + v else if so = 3 then tkG v else 16
/-- a fault, or the place behind and the code -/
abbrev rdR := Nat ⊕ (Nat × List (Nat × Nat))
abbrev isOpd (c : Nat) : Prop := (4 ≤ c ∧ c ≤ 8) ∨ 17 ≤ c
def opd (c : Nat) : Nat × Nat := if 17 ≤ c then (1, c - 17) else (2, c - 4)
def rdSL (C : Nat → Nat) (part : Nat → rdR) : Nat → Nat → List (Nat × Nat) → rdR
  | 0, i, c => .inr (i, c)
  | f + 1, i, c => if C i = 14 ∨ C i = 15 then (match part (i + 1) with
      | .inl e => .inl e
      | .inr (j, c2) => rdSL C part f j (c ++ c2 ++ [(if C i = 14 then 3 else 4, 0)])) else .inr (i, c)
def rdS (C : Nat → Nat) (part : Nat → rdR) (i : Nat) : rdR := match part i with
  | .inl e => .inl e
  | .inr (j, c) => rdSL C part 600 j c
def rdT (C : Nat → Nat) (part : Nat → rdR) (i : Nat) : rdR := match rdS C part i with
  | .inl e => .inl e
  | .inr (j, c) => if C j = 12 ∨ C j = 13 then (match rdS C part (j + 1) with
      | .inl e => .inl e
      | .inr (k, c2) => .inr (k, (c ++ c2 ++ [(if C j = 12 then 6 else 5, 0)]))) else .inr (j, c)
def rdEL (C : Nat → Nat) (part : Nat → rdR) : Nat → Nat → List (Nat × Nat) → rdR
  | 0, i, c => .inr (i, c)
  | f + 1, i, c => if C i = 3 then (match rdT C part (i + 1) with
      | .inl e => .inl e
      | .inr (j, c2) => rdEL C part f j (c ++ c2 ++ [(7, 0)])) else .inr (i, c)
def rdE (C : Nat → Nat) (part : Nat → rdR) (i : Nat) : rdR := match rdT C part i with
  | .inl e => .inl e
  | .inr (j, c) => rdEL C part 600 j c
def rdP (C P : Nat → Nat) : Nat → Nat → rdR
  | 0, i => if isOpd (C i) ∨ C i = 9 then .inl (5 + 16 * P i) else .inl (1 + 16 * P i)
  | d + 1, i => if isOpd (C i) then .inr (i + 1, [opd (C i)]) else if C i = 9 then (match rdE C (rdP C P d) (i + 1) with
      | .inl e => .inl e
      | .inr (j, c) => if C j = 10 then .inr (j + 1, c) else .inl (1 + 16 * P j)) else .inl (1 + 16 * P i)
/-- a line: its end, ground and code -/
def rdL (C P : Nat → Nat) (n i : Nat) : Nat ⊕ (Nat × Nat × List (Nat × Nat)) :=
  if ¬ C i = 1 then .inl (1 + 16 * P i) else if 16 ≤ n then .inl (5 + 16 * P i)
  else if C (i + 1) < 17 then .inl (1 + 16 * P (i + 1)) else if 26 < C (i + 1) then .inl (4 + 16 * P (i + 1))
  else if ¬ C (i + 2) = 2 then .inl (1 + 16 * P (i + 2))
  else match rdE C (rdP C P 5) (i + 3) with
    | .inl e => .inl e
    | .inr (j, c) => if C j = 11 then .inr (j + 1, C (i + 1) - 17, c) else .inl (1 + 16 * P j)
def rdA (C P : Nat → Nat) : Nat → Nat → List (Nat × List (Nat × Nat)) → Nat ⊕ List (Nat × List (Nat × Nat))
  | 0, _, ln => .inr ln
  | f + 1, i, ln => if C i = 0 then .inr ln else match rdL C P ln.length i with
    | .inl e => .inl e
    | .inr (j, g, c) => rdA C P f j (ln ++ [(g, c)])
/-- codes on a pile with room for lim -/
def evL (lim : Nat) (kn : Nat → Int32) : List (Nat × Nat) → List Int32 → Option (List Int32)
  | [], st => some st
  | q :: r, st => if q.1 = 1 then (if st.length < lim then evL lim kn r (nI q.2 :: st) else none) else if q.1 = 2 then (if st.length < lim then evL lim kn r (kn q.2 :: st) else none) else match st with
    | y :: x :: t => evL lim kn r (opV q.1 x y :: t)
    | _ => none
theorem evL_app (lim : Nat) (kn : Nat → Int32) (c2 : List (Nat × Nat)) : ∀ (c : List (Nat × Nat)) (st : List Int32), evL lim kn (c ++ c2) st = (evL lim kn c st).bind (evL lim kn c2) := by
  intro c
  induction c with
  | nil => intro st; rfl
  | cons q r ih =>
    intro st
    simp only [List.cons_append, evL]
    split
    · split
      · exact ih _
      · rfl
    · split
      · split
        · exact ih _
        · rfl
      · split
        · exact ih _
        · rfl
theorem evL_ev (lim : Nat) (kn : Nat → Int32) : ∀ (c : List (Nat × Nat)) (st r : List Int32), evL lim kn c st = some r → ev kn c st = some r := by
  intro c
  induction c with
  | nil => intro st r h; exact h
  | cons q t ih =>
    intro st r
    unfold evL ev
    split
    · split
      · exact ih _ _
      · intro h; cases h
    · split
      · split
        · exact ih _ _
        · intro h; cases h
      · split
        · exact ih _ _
        · intro h; cases h
/-- one code -/
def GQ (q : Nat × Nat) : Prop := 1 ≤ q.1 ∧ q.1 ≤ 7 ∧ (q.1 = 1 → q.2 < 10000) ∧ (q.1 = 2 → q.2 < 5) ∧ (3 ≤ q.1 → q.2 = 0)
/-- good code: it leaves one value, and takes m cells of the pile -/
def GC (m : Nat) (c : List (Nat × Nat)) : Prop := (∀ q, q ∈ c → GQ q) ∧ ∀ lim kn (st : List Int32), st.length + m ≤ lim → ∃ v, evL lim kn c st = some (v :: st)
theorem GC.up {m k : Nat} {c : List (Nat × Nat)} (h : GC m c) (hk : m ≤ k) : GC k c := ⟨h.1, fun lim kn st hl => h.2 lim kn st (by omega)⟩
theorem GC.op {m : Nat} {c c2 : List (Nat × Nat)} {o : Nat} (h : GC (m + 1) c) (h2 : GC m c2) (ho : 3 ≤ o) (ho2 : o ≤ 7) : GC (m + 1) (c ++ c2 ++ [(o, 0)]) := by
  refine ⟨fun q hq => ?_, fun lim kn st hl => ?_⟩
  · simp only [List.mem_append, List.mem_singleton] at hq
    rcases hq with (hq | hq) | hq
    · exact h.1 q hq
    · exact h2.1 q hq
    · subst hq
      exact ⟨by show 1 ≤ o; omega, ho2, fun e => by simp only at e; omega, fun e => by simp only at e; omega, fun _ => rfl⟩
  · obtain ⟨v, e⟩ := h.2 lim kn st hl
    obtain ⟨v2, e2⟩ := h2.2 lim kn (v :: st) (by simp only [List.length_cons]; omega)
    refine ⟨opV o v v2, ?_⟩
    rw [evL_app, evL_app, e, Option.bind_some, e2, Option.bind_some]
    simp only [evL, show ¬ o = 1 by omega, show ¬ o = 2 by omega, if_false]
def OKP (nE m : Nat) (part : Nat → rdR) : Prop := ∀ i j c, i ≤ nE → part i = .inr (j, c) → i < j ∧ j ≤ nE ∧ c.length + i ≤ j ∧ GC m c
section RDOK
variable {C P : Nat → Nat} {nE : Nat}
theorem nx_le (hN : nE ≤ 600) (hC0 : C nE = 0) {i k : Nat} (hi : i ≤ nE) (h : C i = k) (hk : k ≠ 0) : i + 1 ≤ nE := by
  by_cases e : i = nE
  · subst e; omega
  · omega
theorem rdSL_ok (hN : nE ≤ 600) (hC0 : C nE = 0) {part : Nat → rdR} {m : Nat} (hp : OKP nE m part) : ∀ f i c j c', i ≤ nE → nE < i + f → GC (m + 1) c → rdSL C part f i c = .inr (j, c') → i ≤ j ∧ j ≤ nE ∧ c'.length + i ≤ j + c.length ∧ GC (m + 1) c' ∧ ¬ C j = 14 ∧ ¬ C j = 15 := by
  intro f
  induction f with
  | zero => intro i c j c' h1 h2; omega
  | succ f ih =>
    intro i c j c' h1 h2 hg he
    unfold rdSL at he
    split at he
    · rename_i hs
      have hi : i + 1 ≤ nE := by rcases hs with q | q <;> exact nx_le hN hC0 h1 q (by omega)
      generalize e2 : part (i + 1) = r at he
      rcases r with e | ⟨k, c2⟩
      · cases he
      · skip
        obtain ⟨p1, p2, p3, p4⟩ := hp _ _ _ hi e2
        have := ih k _ j c' p2 (by omega) (hg.op p4 (by split <;> omega) (by split <;> omega)) he
        simp only [List.length_append, List.length_cons, List.length_nil] at this
        refine ⟨by omega, this.2.1, by omega, this.2.2.2⟩
    · rename_i hs
      cases he
      exact ⟨Nat.le_refl _, h1, by omega, hg, by omega, by omega⟩
theorem rdS_ok (hN : nE ≤ 600) (hC0 : C nE = 0) {part : Nat → rdR} {m : Nat} (hp : OKP nE m part) {i j : Nat} {c : List (Nat × Nat)} (hi : i ≤ nE) (he : rdS C part i = .inr (j, c)) : i < j ∧ j ≤ nE ∧ c.length + i ≤ j ∧ GC (m + 1) c ∧ ¬ C j = 14 ∧ ¬ C j = 15 := by
  unfold rdS at he
  generalize e2 : part i = r at he
  rcases r with e | ⟨k, c2⟩
  · cases he
  · skip
    obtain ⟨p1, p2, p3, p4⟩ := hp _ _ _ hi e2
    have := rdSL_ok hN hC0 hp 600 k c2 j c p2 (by omega) (p4.up (by omega)) he
    exact ⟨by omega, this.2.1, by omega, this.2.2.2⟩
theorem rdT_ok (hN : nE ≤ 600) (hC0 : C nE = 0) {part : Nat → rdR} {m : Nat} (hp : OKP nE m part) {i j : Nat} {c : List (Nat × Nat)} (hi : i ≤ nE) (he : rdT C part i = .inr (j, c)) : i < j ∧ j ≤ nE ∧ c.length + i ≤ j ∧ GC (m + 2) c := by
  unfold rdT at he
  generalize e2 : rdS C part i = r at he
  rcases r with e | ⟨k, c2⟩
  · cases he
  · skip
    obtain ⟨p1, p2, p3, p4, p5⟩ := rdS_ok hN hC0 hp hi e2
    simp only at he
    split at he
    · rename_i hs
      have hk : k + 1 ≤ nE := by rcases hs with q | q <;> exact nx_le hN hC0 p2 q (by omega)
      generalize e3 : rdS C part (k + 1) = r at he
      rcases r with e | ⟨l, c3⟩
      · cases he
      · skip
        obtain ⟨q1, q2, q3, q4, q5⟩ := rdS_ok hN hC0 hp hk e3
        cases he
        simp only [List.length_append, List.length_cons, List.length_nil]
        exact ⟨by omega, q2, by omega, (p4.up (k := m + 1 + 1) (by omega)).op q4 (by split <;> omega) (by split <;> omega)⟩
    · cases he
      exact ⟨p1, p2, p3, p4.up (by omega)⟩
theorem rdEL_ok (hN : nE ≤ 600) (hC0 : C nE = 0) {part : Nat → rdR} {m : Nat} (hp : OKP nE m part) : ∀ f i c j c', i ≤ nE → nE < i + f → GC (m + 3) c → rdEL C part f i c = .inr (j, c') → i ≤ j ∧ j ≤ nE ∧ c'.length + i ≤ j + c.length ∧ GC (m + 3) c' ∧ ¬ C j = 3 := by
  intro f
  induction f with
  | zero => intro i c j c' h1 h2; omega
  | succ f ih =>
    intro i c j c' h1 h2 hg he
    unfold rdEL at he
    split at he
    · rename_i hs
      have hi : i + 1 ≤ nE := nx_le hN hC0 h1 hs (by omega)
      generalize e2 : rdT C part (i + 1) = r at he
      rcases r with e | ⟨k, c2⟩
      · cases he
      · skip
        obtain ⟨p1, p2, p3, p4⟩ := rdT_ok hN hC0 hp hi e2
        have := ih k _ j c' p2 (by omega) (GC.op (m := m + 2) hg p4 (by omega) (by omega)) he
        simp only [List.length_append, List.length_cons, List.length_nil] at this
        refine ⟨by omega, this.2.1, by omega, this.2.2.2⟩
    · rename_i hs
      cases he
      exact ⟨Nat.le_refl _, h1, by omega, hg, hs⟩
theorem rdE_ok (hN : nE ≤ 600) (hC0 : C nE = 0) {part : Nat → rdR} {m : Nat} (hp : OKP nE m part) {i j : Nat} {c : List (Nat × Nat)} (hi : i ≤ nE) (he : rdE C part i = .inr (j, c)) : i < j ∧ j ≤ nE ∧ c.length + i ≤ j ∧ GC (m + 3) c ∧ ¬ C j = 3 := by
  unfold rdE at he
  generalize e2 : rdT C part i = r at he
  rcases r with e | ⟨k, c2⟩
  · cases he
  · skip
    obtain ⟨p1, p2, p3, p4⟩ := rdT_ok hN hC0 hp hi e2
    have := rdEL_ok hN hC0 hp 600 k c2 j c p2 (by omega) (p4.up (by omega)) he
    exact ⟨by omega, this.2.1, by omega, this.2.2.2⟩
theorem rdE_0 {i j : Nat} {c : List (Nat × Nat)} : ¬ rdE C (rdP C P 0) i = .inr (j, c) := by
  intro h
  unfold rdE rdT rdS rdP at h
  split at h
  · cases h
  · rename_i e
    split at e
    · cases e
    · rename_i e2
      split at e2
      · cases e2
      · rename_i e3
        split at e3 <;> cases e3
theorem opd_GC {c : Nat} (h : isOpd c) (hc : c < 10017) : GC 1 [opd c] := by
  unfold isOpd at h
  unfold opd
  refine ⟨fun q hq => ?_, fun lim kn st hl => ?_⟩
  · rw [List.mem_singleton] at hq
    subst hq
    split
    · exact ⟨Nat.le_of_ble_eq_true rfl, Nat.le_of_ble_eq_true rfl, fun _ => by show c - 17 < 10000; omega, fun e => by simp at e, fun e => by simp at e⟩
    · exact ⟨Nat.le_of_ble_eq_true rfl, Nat.le_of_ble_eq_true rfl, fun e => by simp at e, fun _ => by show c - 4 < 5; omega, fun e => by simp at e⟩
  · split
    · exact ⟨nI (c - 17), by simp only [evL, if_true]; rw [if_pos (by omega)]⟩
    · exact ⟨kn (c - 4), by simp only [evL, if_true]; rw [if_neg (by decide), if_pos (by omega)]⟩
theorem rdP_ok (hN : nE ≤ 600) (hC0 : C nE = 0) (hC : ∀ i, C i < 10017) : ∀ d, OKP nE (3 * d - 2) (rdP C P d) := by
  intro d
  induction d with
  | zero =>
    intro i j c hi he
    unfold rdP at he
    split at he <;> cases he
  | succ d ih =>
    intro i j c hi he
    unfold rdP at he
    split at he
    · rename_i ho
      have : i + 1 ≤ nE := nx_le hN hC0 hi (k := C i) rfl (by unfold isOpd at ho; omega)
      cases he
      exact ⟨by omega, by omega, by simp; omega, (opd_GC ho (hC i)).up (by omega)⟩
    · split at he
      · rename_i h9
        have h1 : i + 1 ≤ nE := nx_le hN hC0 hi h9 (by omega)
        generalize e2 : rdE C (rdP C P d) (i + 1) = r at he
        rcases r with e | ⟨k, c2⟩
        · cases he
        · skip
          simp only at he
          have hd : d ≠ 0 := by
            intro e
            subst e
            exact rdE_0 e2
          obtain ⟨p1, p2, p3, p4, p5⟩ := rdE_ok hN hC0 ih h1 e2
          split at he
          · rename_i h10
            have h3 : k + 1 ≤ nE := nx_le hN hC0 p2 h10 (by omega)
            cases he
            exact ⟨by omega, by omega, by omega, p4.up (by omega)⟩
          · cases he
      · cases he
end RDOK

def fl (u : Nat) : List (Nat × Nat) := if u = 0 then [] else [(u, 0)]
def fl7 (n : Nat) : List (Nat × Nat) := if n = 0 then [] else [(7, 0)]
section RDSIM
variable {C P : Nat → Nat} {nE : Nat}
variable (LP GP : Nat → List (Nat × Nat) → List (Nat × Nat × Nat) → Prop) (FN : Nat → List (Nat × Nat) → Prop) (FP : Nat → Prop)
def sGE (C P : Nat → Nat) (i : Nat) (cd : List (Nat × Nat)) (r : List (Nat × Nat × Nat)) : Prop := match r with
  | [] => FN i cd
  | _ :: _ => if C i = 10 then GP (i + 1) cd r else FP (1 + 16 * P i)
def sGT (C P : Nat → Nat) (i : Nat) (cd : List (Nat × Nat)) (n : Nat) (r : List (Nat × Nat × Nat)) : Prop :=
  if C i = 3 then LP (i + 1) (cd ++ fl7 n) ((0, 0, 7) :: r) else sGE GP FN FP C P i (cd ++ fl7 n) r
def sGD (C P : Nat → Nat) (i : Nat) (cd : List (Nat × Nat)) (u g n : Nat) (r : List (Nat × Nat × Nat)) : Prop :=
  if C i = 14 then LP (i + 1) (cd ++ fl u) ((3, g, n) :: r) else if C i = 15 then LP (i + 1) (cd ++ fl u) ((4, g, n) :: r)
  else if g = 0 ∧ C i = 12 then LP (i + 1) (cd ++ fl u) ((0, 6, n) :: r) else if g = 0 ∧ C i = 13 then LP (i + 1) (cd ++ fl u) ((0, 5, n) :: r)
  else sGT LP GP FN FP C P i (cd ++ fl u ++ fl g) n r
/-- what a part does -/
def sPT (C P : Nat → Nat) (nE : Nat) (part : Nat → rdR) (k : Nat) : Prop := ∀ i cd u g n r, i ≤ nE → r.length = k → match part i with
  | .inl e => FP e → LP i cd ((u, g, n) :: r)
  | .inr (j, c) => sGD LP GP FN FP C P j (cd ++ c) u g n r → LP i cd ((u, g, n) :: r)
variable {LP GP FN FP}
theorem s_SL (hN : nE ≤ 600) (hC0 : C nE = 0) {part : Nat → rdR} {k m : Nat} (hp : OKP nE m part) (hs : sPT LP GP FN FP C P nE part k) {cd : List (Nat × Nat)} {g n : Nat} {r : List (Nat × Nat × Nat)} (hr : r.length = k) : ∀ f i c, i ≤ nE → nE < i + f → GC (m + 1) c → match rdSL C part f i c with
    | .inl e => FP e → sGD LP GP FN FP C P i (cd ++ c) 0 g n r
    | .inr (j, c') => sGD LP GP FN FP C P j (cd ++ c') 0 g n r → sGD LP GP FN FP C P i (cd ++ c) 0 g n r := by
  intro f
  induction f with
  | zero => intro i c h1 h2; omega
  | succ f ih =>
    intro i c h1 h2 hg
    unfold rdSL
    by_cases hc : C i = 14 ∨ C i = 15
    · rw [if_pos hc]
      have hi : i + 1 ≤ nE := by rcases hc with q | q <;> exact nx_le hN hC0 h1 q (by omega)
      have key : ∀ o, LP (i + 1) (cd ++ c) ((if C i = 14 then 3 else 4, g, n) :: r) → o = i → sGD LP GP FN FP C P o (cd ++ c) 0 g n r := by
        intro o hl e
        subst e
        unfold sGD
        by_cases h14 : C o = 14
        · rw [if_pos h14] at hl ⊢
          simpa [fl] using hl
        · have h15 : C o = 15 := by omega
          rw [if_neg h14] at hl ⊢
          rw [if_pos h15]
          simpa [fl] using hl
      have hq := fun u => hs (i + 1) (cd ++ c) u g n r hi hr
      have hk := hp (i + 1)
      generalize part (i + 1) = pr at hq hk ⊢
      rcases pr with e | ⟨j, c2⟩
      · exact fun he => key i (hq _ he) rfl
      · skip
        obtain ⟨p1, p2, p3, p4⟩ := hk j c2 hi rfl
        simp only
        have := ih j (c ++ c2 ++ [(if C i = 14 then 3 else 4, 0)]) p2 (by omega) (hg.op p4 (by split <;> omega) (by split <;> omega))
        have conv : sGD LP GP FN FP C P j (cd ++ (c ++ c2 ++ [(if C i = 14 then 3 else 4, 0)])) 0 g n r → sGD LP GP FN FP C P i (cd ++ c) 0 g n r := by
          intro hx
          refine key i (hq _ ?_) rfl
          have e : cd ++ c ++ c2 ++ fl (if C i = 14 then 3 else 4) = cd ++ (c ++ c2 ++ [(if C i = 14 then 3 else 4, 0)]) ++ fl 0 := by
            unfold fl
            split <;> simp
          unfold sGD at hx ⊢
          rw [e]
          exact hx
        generalize rdSL C part f j (c ++ c2 ++ [(if C i = 14 then 3 else 4, 0)]) = res at this ⊢
        rcases res with e | ⟨k2, c3⟩
        · exact fun he => conv (this he)
        · exact fun he => conv (this he)
    · rw [if_neg hc]
      exact id
theorem s_S (hN : nE ≤ 600) (hC0 : C nE = 0) {part : Nat → rdR} {k m : Nat} (hp : OKP nE m part) (hs : sPT LP GP FN FP C P nE part k) {cd : List (Nat × Nat)} {g n : Nat} {r : List (Nat × Nat × Nat)} (hr : r.length = k) {i : Nat} (hi : i ≤ nE) : match rdS C part i with
    | .inl e => FP e → LP i cd ((0, g, n) :: r)
    | .inr (j, c') => sGD LP GP FN FP C P j (cd ++ c') 0 g n r → LP i cd ((0, g, n) :: r) := by
  unfold rdS
  have hq := hs i cd 0 g n r hi hr
  have hk := hp i
  generalize part i = pr at hq hk ⊢
  rcases pr with e | ⟨j, c⟩
  · exact hq
  · skip
    obtain ⟨p1, p2, p3, p4⟩ := hk j c hi rfl
    simp only
    have := s_SL (P := P) hN hC0 hp hs (cd := cd) (g := g) (n := n) hr 600 j c p2 (by omega) (p4.up (by omega))
    generalize rdSL C part 600 j c = res at this ⊢
    rcases res with e | ⟨k2, c3⟩
    · exact fun he => hq (this he)
    · exact fun he => hq (this he)
theorem s_T (hN : nE ≤ 600) (hC0 : C nE = 0) {part : Nat → rdR} {k m : Nat} (hp : OKP nE m part) (hs : sPT LP GP FN FP C P nE part k) {cd : List (Nat × Nat)} {n : Nat} {r : List (Nat × Nat × Nat)} (hr : r.length = k) {i : Nat} (hi : i ≤ nE) : match rdT C part i with
    | .inl e => FP e → LP i cd ((0, 0, n) :: r)
    | .inr (j, c') => sGT LP GP FN FP C P j (cd ++ c') n r → LP i cd ((0, 0, n) :: r) := by
  unfold rdT
  have h1 := s_S (P := P) hN hC0 hp hs (cd := cd) (g := 0) (n := n) hr hi
  have k1 := fun j c e => rdS_ok hN hC0 hp (j := j) (c := c) hi e
  generalize rdS C part i = pr at h1 k1 ⊢
  rcases pr with e | ⟨j, c⟩
  · exact h1
  · skip
    obtain ⟨p1, p2, p3, p4, p5, p6⟩ := k1 j c rfl
    simp only at h1 ⊢
    by_cases hc : C j = 12 ∨ C j = 13
    · rw [if_pos hc]
      have hj : j + 1 ≤ nE := by rcases hc with q | q <;> exact nx_le hN hC0 p2 q (by omega)
      have key : LP (j + 1) (cd ++ c) ((0, if C j = 12 then 6 else 5, n) :: r) → LP i cd ((0, 0, n) :: r) := by
        intro hl
        apply h1
        unfold sGD
        rw [if_neg p5, if_neg p6]
        by_cases h12 : C j = 12
        · rw [if_pos h12] at hl
          rw [if_pos ⟨rfl, h12⟩]
          simpa [fl] using hl
        · rw [if_neg h12] at hl
          rw [if_neg (by omega), if_pos ⟨rfl, by omega⟩]
          simpa [fl] using hl
      have h2 := s_S (P := P) hN hC0 hp hs (cd := cd ++ c) (g := if C j = 12 then 6 else 5) (n := n) hr hj
      have k2 := fun j' c' e => rdS_ok hN hC0 hp (j := j') (c := c') hj e
      generalize rdS C part (j + 1) = pr at h2 k2 ⊢
      rcases pr with e | ⟨l, c2⟩
      · exact fun he => key (h2 he)
      · skip
        obtain ⟨q1, q2, q3, q4, q5, q6⟩ := k2 l c2 rfl
        simp only at h2 ⊢
        intro hx
        apply key
        apply h2
        unfold sGD
        rw [if_neg q5, if_neg q6, if_neg (by intro q; split at q <;> omega), if_neg (by intro q; split at q <;> omega)]
        have e : cd ++ c ++ c2 ++ fl 0 ++ fl (if C j = 12 then 6 else 5) = cd ++ (c ++ c2 ++ [(if C j = 12 then 6 else 5, 0)]) := by
          by_cases h12 : C j = 12 <;> simp [fl, h12]
        rw [e]
        exact hx
    · rw [if_neg hc]
      intro hx
      apply h1
      unfold sGD
      rw [if_neg p5, if_neg p6, if_neg (by omega), if_neg (by omega)]
      simpa [fl] using hx
theorem s_EL (hN : nE ≤ 600) (hC0 : C nE = 0) {part : Nat → rdR} {k m : Nat} (hp : OKP nE m part) (hs : sPT LP GP FN FP C P nE part k) {cd : List (Nat × Nat)} {r : List (Nat × Nat × Nat)} (hr : r.length = k) : ∀ f i c, i ≤ nE → nE < i + f → GC (m + 3) c → match rdEL C part f i c with
    | .inl e => FP e → sGT LP GP FN FP C P i (cd ++ c) 0 r
    | .inr (j, c') => sGE GP FN FP C P j (cd ++ c') r → sGT LP GP FN FP C P i (cd ++ c) 0 r := by
  intro f
  induction f with
  | zero => intro i c h1 h2; omega
  | succ f ih =>
    intro i c h1 h2 hg
    unfold rdEL
    by_cases hc : C i = 3
    · rw [if_pos hc]
      have hi : i + 1 ≤ nE := nx_le hN hC0 h1 hc (by omega)
      have key : LP (i + 1) (cd ++ c) ((0, 0, 7) :: r) → sGT LP GP FN FP C P i (cd ++ c) 0 r := by
        intro hl
        unfold sGT
        rw [if_pos hc]
        simpa [fl7] using hl
      have hq := s_T (P := P) hN hC0 hp hs (cd := cd ++ c) (n := 7) hr hi
      have hk := fun j c e => rdT_ok hN hC0 hp (j := j) (c := c) hi e
      generalize rdT C part (i + 1) = pr at hq hk ⊢
      rcases pr with e | ⟨j, c2⟩
      · exact fun he => key (hq he)
      · skip
        obtain ⟨p1, p2, p3, p4⟩ := hk j c2 rfl
        simp only at hq ⊢
        have := ih j (c ++ c2 ++ [(7, 0)]) p2 (by omega) (GC.op (m := m + 2) hg p4 (by omega) (by omega))
        have conv : sGT LP GP FN FP C P j (cd ++ (c ++ c2 ++ [(7, 0)])) 0 r → sGT LP GP FN FP C P i (cd ++ c) 0 r := by
          intro hx
          apply key
          apply hq
          have e : cd ++ c ++ c2 ++ fl7 7 = cd ++ (c ++ c2 ++ [(7, 0)]) ++ fl7 0 := by simp [fl7]
          unfold sGT at hx ⊢
          rw [e]
          exact hx
        generalize rdEL C part f j (c ++ c2 ++ [(7, 0)]) = res at this ⊢
        rcases res with e | ⟨k2, c3⟩
        · exact fun he => conv (this he)
        · exact fun he => conv (this he)
    · rw [if_neg hc]
      intro hx
      unfold sGT
      rw [if_neg hc]
      simpa [fl7] using hx
theorem s_E (hN : nE ≤ 600) (hC0 : C nE = 0) {part : Nat → rdR} {k m : Nat} (hp : OKP nE m part) (hs : sPT LP GP FN FP C P nE part k) {cd : List (Nat × Nat)} {r : List (Nat × Nat × Nat)} (hr : r.length = k) {i : Nat} (hi : i ≤ nE) : match rdE C part i with
    | .inl e => FP e → LP i cd ((0, 0, 0) :: r)
    | .inr (j, c') => sGE GP FN FP C P j (cd ++ c') r → LP i cd ((0, 0, 0) :: r) := by
  unfold rdE
  have hq := s_T (P := P) hN hC0 hp hs (cd := cd) (n := 0) hr hi
  have hk := fun j c e => rdT_ok hN hC0 hp (j := j) (c := c) hi e
  generalize rdT C part i = pr at hq hk ⊢
  rcases pr with e | ⟨j, c⟩
  · exact hq
  · skip
    obtain ⟨p1, p2, p3, p4⟩ := hk j c rfl
    simp only at hq ⊢
    have := s_EL (P := P) hN hC0 hp hs (cd := cd) hr 600 j c p2 (by omega) (p4.up (by omega))
    generalize rdEL C part 600 j c = res at this ⊢
    rcases res with e | ⟨k2, c3⟩
    · exact fun he => hq (this he)
    · exact fun he => hq (this he)
theorem s_P (hN : nE ≤ 600) (hC0 : C nE = 0) (hC : ∀ i, C i < 10017)
    (hP1 : ∀ i cd w, w.length ≤ 5 → isOpd (C i) → GP (i + 1) (cd ++ [opd (C i)]) w → LP i cd w)
    (hP2 : ∀ i cd w, w.length ≤ 5 → C i = 9 → LP (i + 1) cd ((0, 0, 0) :: w) → LP i cd w)
    (hP3 : ∀ i cd w, ¬ isOpd (C i) → ¬ C i = 9 → FP (1 + 16 * P i) → LP i cd w)
    (hP4 : ∀ i cd w, w.length = 6 → isOpd (C i) ∨ C i = 9 → FP (5 + 16 * P i) → LP i cd w)
    (hG : ∀ i cd u g n r, sGD LP GP FN FP C P i cd u g n r → GP i cd ((u, g, n) :: r)) : ∀ d, d ≤ 5 → sPT LP GP FN FP C P nE (rdP C P d) (5 - d) := by
  intro d
  induction d with
  | zero =>
    intro _ i cd u g n r hi hr
    unfold rdP
    by_cases h : isOpd (C i) ∨ C i = 9
    · rw [if_pos h]
      exact hP4 i cd _ (by simp; omega) h
    · rw [if_neg h]
      exact hP3 i cd _ (fun q => h (Or.inl q)) (fun q => h (Or.inr q))
  | succ d ih =>
    intro hd i cd u g n r hi hr
    unfold rdP
    by_cases ho : isOpd (C i)
    · rw [if_pos ho]
      exact fun hx => hP1 i cd _ (by simp; omega) ho (hG _ _ _ _ _ _ hx)
    · rw [if_neg ho]
      by_cases h9 : C i = 9
      · rw [if_pos h9]
        have h1 : i + 1 ≤ nE := nx_le hN hC0 hi h9 (by omega)
        have hq := s_E (P := P) hN hC0 (rdP_ok hN hC0 hC d) (ih (by omega)) (cd := cd) (r := (u, g, n) :: r) (by simp; omega) h1
        generalize rdE C (rdP C P d) (i + 1) = pr at hq ⊢
        rcases pr with e | ⟨j, c⟩
        · exact fun he => hP2 i cd _ (by simp; omega) h9 (hq he)
        · skip
          simp only at hq ⊢
          by_cases h10 : C j = 10
          · rw [if_pos h10]
            refine fun hx => hP2 i cd _ (by simp; omega) h9 (hq ?_)
            unfold sGE
            simp only
            rw [if_pos h10]
            exact hG _ _ _ _ _ _ hx
          · rw [if_neg h10]
            refine fun hx => hP2 i cd _ (by simp; omega) h9 (hq ?_)
            unfold sGE
            simp only
            rw [if_neg h10]
            exact hx
      · rw [if_neg h9]
        exact hP3 i cd _ ho h9
end RDSIM
