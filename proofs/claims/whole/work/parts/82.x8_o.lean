/-! THE DESK: a new page -/
section X8O
variable {B : gB} {h h' : gHp} {d E v mi : Nat} {Y : gYm} {ow : Nat → gTag} {rl : List (Nat × List (Nat × Nat))} {s : Nat → Nat} {a : Nat → Nat → Nat} {Q : Option Value → gHp → Prop}
theorem DS.tag {ow' : Nat → gTag} (hd : DS E Y ow v rl h s a) (own : OWN Y ow' h s a) : DS E Y ow' v rl h s a := ⟨own, hd.2⟩
abbrev pgS (s : Nat → Nat) : Nat → Nat := va_up (va_up s 31 (s 31 + 1)) 44 0
theorem pgS_N (q : Nat) : pgN (pgS s) a q = pgN s a q + (if a 32 (s 31) == q then 1 else 0) := rfl
theorem pgS_O (q j : Nat) : pgO (pgS s) a q j = if (a 32 (s 31) == q) = true ∧ j = pgN s a q then s 31 else pgO s a q j := rfl
set_option maxRecDepth 100000 in
set_option maxHeartbeats 6400000 in
theorem DS.pgn {p t xp e4 e5 : Nat} (hd : DS E Y ow v rl h s a) (wg : ∀ g, g < s 31 → a 32 g < s 27 ∧ a 33 g < s 36) (hp : p < s 27) (ht : t < s 36) (a32 : a 32 (s 31) = p) (a33 : a 33 (s 31) = t) (ox : ow xp = (3, s 31, 0)) (hx : hK h xp ≠ 0) (hf : FRO ow [(3, s 31, 0), (0, 6, 0), (1, 6, 0), (2, p, 3), (2, p, 1), (0, 0, 0)] h h') (d06 : D0 Y v h' (pgS s) a) (kx : hK h' xp = 4) (x0 : hI h' 3 0 xp = nI (s 31)) (x1 : hR h' 3 1 xp = some (Y 2 p 0)) (x2 : hR h' 3 2 xp = some (Y 4 t 0)) (m20 : SAM h h' (Y 2 p 0)) (L6 : LST E h' (Y 0 6 0) e4 (s 31 + 1) 3 (va_up (fun i => Y 3 i 0) (s 31) xp)) (LP : LST E h' (Y 2 p 3) e5 (pgN s a p + 1) 3 (va_up (fun j => Y 3 (pgO s a p j) 0) (pgN s a p) xp)) (he4 : s 31 ≠ 0 ∧ e4 = Y 1 6 0 ∨ hK h e4 = 0 ∧ hK h' e4 ≠ 0) (he5 : pgN s a p ≠ 0 ∧ e5 = Y 2 p 1 ∨ hK h e5 = 0 ∧ hK h' e5 ≠ 0) (h45 : e4 ≠ e5) : ∃ Y6 ow6, DS E Y6 ow6 v rl h' (pgS s) a ∧ (∀ b, hK h b ≠ 0 → ow6 b = ow b) ∧ Y6 0 = Y 0 ∧ ∀ i, Y6 2 i 0 = Y 2 i 0 := by
  obtain ⟨own, d0, df, dt, db, dl, dp, dg, dx, da, dh, du, dr⟩ := id hd
  have own' := own.F hf
  have v4 : s 31 ≠ 0 → vld s a 1 6 0 := fun q => And.intro rfl (by omega)
  have v5 : pgN s a p ≠ 0 → vld s a 2 p 1 := fun q => And.intro hp (Or.inr (Or.inr ⟨rfl, by omega⟩))
  have ke4 : hK h' e4 ≠ 0 := by
    rcases he4 with ⟨q1, q2⟩ | ⟨_, q2⟩
    · rw [q2]; exact (own' 1 6 0 (v4 q1)).1
    · exact q2
  have ke5 : hK h' e5 ≠ 0 := by
    rcases he5 with ⟨q1, q2⟩ | ⟨_, q2⟩
    · rw [q2]; exact (own' 2 p 1 (v5 q1)).1
    · exact q2
  generalize hw : va_up (va_up ow e4 (1, 6, 0)) e5 (2, p, 1) = ow6
  have w4 : ow6 e4 = (1, 6, 0) := by rw [← hw, va_up_eq, if_neg h45, va_up_eq, if_pos rfl]
  have w5 : ow6 e5 = (2, p, 1) := by rw [← hw, va_up_eq, if_pos rfl]
  have wo : ∀ b, hK h b ≠ 0 → ow6 b = ow b := fun b hb => by
    rw [← hw, va_up_eq]
    by_cases q : b = e5
    · rw [if_pos q]
      rcases he5 with ⟨q1, q2⟩ | ⟨q1, _⟩
      · rw [q, q2]; exact (own 2 p 1 (v5 q1)).2.symm
      · rw [q] at hb; exact absurd q1 hb
    · rw [if_neg q, va_up_eq]
      by_cases q : b = e4
      · rw [if_pos q]
        rcases he4 with ⟨q1, q2⟩ | ⟨q1, _⟩
        · rw [q, q2]; exact (own 1 6 0 (v4 q1)).2.symm
        · rw [q] at hb; exact absurd q1 hb
      · rw [if_neg q]
  generalize hY : (fun r j k => if r = 3 ∧ j = s 31 then xp else if r = 1 ∧ j = 6 ∧ k = 0 then e4 else if r = 2 ∧ j = p ∧ k = 1 then e5 else Y r j k) = Y'
  have yo : ∀ r j k, ¬ (r = 3 ∧ j = s 31) → ¬ (r = 1 ∧ j = 6 ∧ k = 0) → ¬ (r = 2 ∧ j = p ∧ k = 1) → Y' r j k = Y r j k := fun r j k q1 q2 q3 => by rw [← hY]; simp only [if_neg q1, if_neg q2, if_neg q3]
  have yx : Y' 3 (s 31) 0 = xp := by rw [← hY]; simp
  have y4e : Y' 1 6 0 = e4 := by rw [← hY]; simp
  have y5e : Y' 2 p 1 = e5 := by rw [← hY]; simp
  have yr : ∀ r, r ≠ 3 → r ≠ 1 → r ≠ 2 → Y' r = Y r := fun r q1 q2 q3 => by funext j k; exact yo r j k (by omega) (by omega) (by omega)
  have y0 := yr 0 (by omega) (by omega) (by omega)
  have y4 := yr 4 (by omega) (by omega) (by omega)
  have y5 := yr 5 (by omega) (by omega) (by omega)
  have y6 := yr 6 (by omega) (by omega) (by omega)
  have y7 := yr 7 (by omega) (by omega) (by omega)
  have y8 := yr 8 (by omega) (by omega) (by omega)
  have y20 : ∀ i, Y' 2 i 0 = Y 2 i 0 := fun i => yo 2 i 0 (by omega) (by omega) (by omega)
  have y3o : ∀ i, i < s 31 → Y' 3 i 0 = Y 3 i 0 := fun i hi => yo 3 i 0 (by omega) (by omega) (by omega)
  have own6 : OWN Y' ow6 h' (pgS s) a := by
    intro r j k hv
    have old : vld s a r j k → ¬ (r = 3 ∧ j = s 31) → ¬ (r = 1 ∧ j = 6 ∧ k = 0) → ¬ (r = 2 ∧ j = p ∧ k = 1) → hK h' (Y' r j k) ≠ 0 ∧ ow6 (Y' r j k) = (r, j, k) := fun hv q1 q2 q3 => by
      rw [yo r j k q1 q2 q3]
      exact ⟨(own' r j k hv).1, by rw [wo _ (own r j k hv).1]; exact (own r j k hv).2⟩
    match r, hv with
    | 0, hv => exact old hv (by omega) (by omega) (by omega)
    | 1, hv =>
      have ek : k = 0 := hv.1
      have hw : j = 5 ∧ 0 < s 27 ∨ j = 6 ∧ 0 < s 31 + 1 ∨ j = 7 ∧ 0 < s 36 ∨ j = 8 ∧ 0 < s 46 ∨ j = 9 ∧ 0 < s 57 := hv.2
      subst ek
      by_cases q : j = 6
      · subst q
        rw [y4e]
        exact ⟨ke4, w4⟩
      · exact old ⟨rfl, by omega⟩ (by omega) (by omega) (by omega)
    | 2, hv =>
      by_cases q : j = p ∧ k = 1
      · rw [q.1, q.2, y5e]
        exact ⟨ke5, w5⟩
      · refine old ⟨hv.1, ?_⟩ (by omega) (by omega) (by omega)
        rcases hv.2 with e | e | e
        · exact Or.inl e
        · exact Or.inr (Or.inl e)
        · refine Or.inr (Or.inr ⟨e.1, ?_⟩)
          have := e.2
          rw [pgS_N, a32, beq_false_of_ne (fun q2 => q ⟨q2.symm, e.1⟩)] at this
          simpa using this
    | 3, hv =>
      have hj : j < s 31 + 1 := hv.1
      have ek : k = 0 := hv.2
      subst ek
      by_cases q : j = s 31
      · subst q
        rw [yx]
        exact ⟨by omega, by rw [wo _ hx]; exact ox⟩
      · exact old ⟨show j < s 31 by omega, rfl⟩ (by omega) (by omega) (by omega)
    | 4, hv => exact old hv (by omega) (by omega) (by omega)
    | 5, hv => exact old hv (by omega) (by omega) (by omega)
    | 6, hv => exact old hv (by omega) (by omega) (by omega)
    | 7, hv => exact old hv (by omega) (by omega) (by omega)
    | 8, hv => exact old hv (by omega) (by omega) (by omega)
    | (n + 9), hv => exact hv.elim
  have nT : ∀ r i k, 4 ≤ r → ¬ (r, i, k) ∈ [(3, s 31, 0), (0, 6, 0), (1, 6, 0), (2, p, 3), (2, p, 1), (0, 0, 0)] := fun r i k h2 => by simp; omega
  have d06' : D0 Y' v h' (pgS s) a := by unfold D0 at d06 ⊢; rw [y0, y7, y8]; exact d06
  have wgg : ∀ g, g < s 31 → hK h' (Y' 3 g 0) = 4 ∧ hI h' 3 0 (Y' 3 g 0) = nI g ∧ hR h' 3 1 (Y' 3 g 0) = some (Y' 2 (a 32 g) 0) ∧ hR h' 3 2 (Y' 3 g 0) = some (Y' 4 (a 33 g) 0) := fun g hg => by
    have m := own.sam hf (r := 3) (i := g) (k := 0) (And.intro hg rfl) (by simp; omega)
    rw [y3o g hg, y20, y4, m.1, m.2.2.1, m.2.2.2.1, m.2.2.2.1]
    exact dg g hg
  refine ⟨Y', ow6, ⟨own6, d06', DF.K own hf (by simp) (by rw [y0]) rfl (fun _ => rfl) df, DT.K own hf (by simp) (by rw [y0]) (Nat.zero_le _) (fun _ => rfl) dt, DB.K own hf y0 db, ⟨DL.K (n := s 27) (s' := s) own hf (by omega) (by simp) (by simp) (by omega) (by rw [y0]) (yo _ _ _ (by omega) (by omega) (by omega)) (fun i _ => y20 i) dl.1, ?_, DL.K (n := s 36) (s' := s) own hf (by omega) (by simp) (by simp) (by omega) (by rw [y0]) (yo _ _ _ (by omega) (by omega) (by omega)) (fun i _ => by rw [y4]) dl.2.2.1, DL.K (n := s 46) (s' := s) own hf (by omega) (by simp) (by simp) (by omega) (by rw [y0]) (yo _ _ _ (by omega) (by omega) (by omega)) (fun i _ => by rw [y5]) dl.2.2.2.1, DL.K (n := s 57) (s' := s) own hf (by omega) (by simp) (by simp) (by omega) (by rw [y0]) (yo _ _ _ (by omega) (by omega) (by omega)) (fun i _ => by rw [y6]) dl.2.2.2.2⟩, ?_, ?_, fun u hu => DX.K own hf hu (fun k => nT 4 u k (by omega)) (fun _ => by rw [y4]) ⟨rfl, rfl, rfl, rfl, fun _ _ => rfl, fun _ _ => rfl, fun _ _ => rfl, fun _ _ => rfl, fun _ _ => rfl⟩ (dx u hu), fun b hb => DA.K own hf hb (fun k => nT 5 b k (by omega)) (fun _ => by rw [y5]) ⟨Nat.le_refl _, rfl⟩ ⟨rfl, rfl, rfl, rfl, rfl, rfl, rfl, fun _ _ => rfl, fun _ _ => rfl⟩ (da b hb), fun i hi => DH.K own hf hi (fun k => nT 6 i k (by omega)) (fun _ => by rw [y6]) ⟨rfl, rfl, rfl, rfl, fun _ _ => rfl⟩ (dh i hi), DU.K own hf ⟨nT 7 0 0 (by omega), nT 7 0 4 (by omega)⟩ y7 rfl (fun _ => rfl) du, DR.K own hf (fun q k _ => nT 8 q k (by omega)) y8 dr⟩, wo, y0, y20⟩
  · rw [show Y' 0 6 0 = Y 0 6 0 by rw [y0], y4e]
    exact L6.M (SAM.rf _ _) (fun _ => SAM.rf _ _) (fun i hi => ⟨by
      by_cases q : i = s 31
      · subst q; rw [yx, va_up_eq, if_pos rfl]
      · rw [y3o i (by omega), va_up_eq, if_neg q], rfl⟩)
  · intro q hq
    have hq : q < s 27 := hq
    by_cases e : q = p
    · subst e
      obtain ⟨d1, ⟨k0, i1, i2, r3, i4⟩, dlp, dr1⟩ := dp q hq
      have eN : pgN (pgS s) a q = pgN s a q + 1 := by rw [pgS_N, a32]; simp
      have y23 : Y' 2 q 3 = Y 2 q 3 := yo 2 q 3 (by omega) (by omega) (by omega)
      rw [eN, y5e]
      refine ⟨by rw [y20, m20.2.2.1]; exact d1, ⟨by rw [y20, m20.1]; exact k0, by rw [y20, m20.2.2.1]; exact i1, by rw [y20, m20.2.2.1]; exact i2, by rw [y20, y23, m20.2.2.2.1]; exact r3, by rw [y20, m20.2.2.1]; exact i4⟩, ?_, dr1⟩
      rw [y23]
      refine LP.M (SAM.rf _ _) (fun _ => SAM.rf _ _) (fun j hj => ⟨?_, rfl⟩)
      rw [pgS_O, a32, va_up_eq]
      by_cases ej : j = pgN s a q
      · rw [if_pos ⟨by simp, ej⟩, if_pos ej, yx]
      · rw [if_neg (fun w => ej w.2), if_neg ej]
        have := (nthN_lt (fun g => a 32 g == q) (s 31) j (show j < pgN s a q by omega)).1
        exact y3o _ this
    · have e0 : (a 32 (s 31) == q) = false := by rw [a32]; exact beq_false_of_ne (fun w => e w.symm)
      refine DP.K own hf hq (fun k => by simp; omega) ⟨fun k => yo 2 q k (by omega) (by omega) (by omega), y3o⟩ ⟨by rw [pgS_N, e0]; rfl, ?_, rfl, rfl, rfl⟩ (dp q hq)
      funext j
      rw [pgS_O, e0]
      simp
  · intro g hg
    have hg : g < s 31 + 1 := hg
    by_cases e : g = s 31
    · subst e
      rw [yx, a32, a33, y20, y4]
      exact ⟨kx, x0, x1, x2⟩
    · exact wgg g (by omega)
end X8O
