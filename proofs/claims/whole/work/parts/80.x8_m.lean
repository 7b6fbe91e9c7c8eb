/-! THE DESK: a told page, first step: its text -/
theorem DG.K2 {v E : Nat} {Y Y' : gYm} {ow : Nat → gTag} {T : List gTag} {h h' : gHp} {s s' : Nat → Nat} {a a' : Nat → Nat → Nat} (own : OWN Y ow h s a) (wp : ∀ g, g < s 31 → a 32 g < s 27 ∧ a 33 g < s 36) (hf : FRO ow T h h') (hT : ∀ i k, ¬ (3, i, k) ∈ T) (hY : (∀ i, i < s 31 → Y' 3 i 0 = Y 3 i 0) ∧ (∀ i, i < s 27 → Y' 2 i 0 = Y 2 i 0) ∧ ∀ i, i < s 36 → Y' 4 i 0 = Y 4 i 0) {g : Nat} (hg : g < s 31) (ha : a' 32 g = a 32 g ∧ a' 33 g = a 33 g) (d : DG Y h s a) : hK h' (Y' 3 g 0) = 4 ∧ hI h' 3 0 (Y' 3 g 0) = nI g ∧ hR h' 3 1 (Y' 3 g 0) = some (Y' 2 (a' 32 g) 0) ∧ hR h' 3 2 (Y' 3 g 0) = some (Y' 4 (a' 33 g) 0) := by
  have m := own.sam hf (r := 3) (i := g) (k := 0) (And.intro (by omega) (by omega)) (hT _ _)
  have w := wp g hg
  rw [hY.1 g hg, ha.1, ha.2, hY.2.1 _ w.1, hY.2.2 _ w.2, m.1, m.2.2.1, m.2.2.2.1, m.2.2.2.1]
  exact d g hg
theorem TXT.W {h : gHp} {z : Nat → Nat} {L n : Nat} {W W' : Nat → Nat} {S : Nat → Nat → Nat} (t : TXT h z L W n S) (h1 : ∀ k, k < L → W' k = W k) (h2 : ∀ k, W' k < 2 ^ 31) : TXT h z L W' n S := by
  obtain ⟨q, hn, hL, aw, a4, a5, a6, bw, bs, b6⟩ := t
  exact ⟨q, hn, hL, fun k hk => by rw [h1 k hk]; exact aw k hk, a4, a5, a6, h2, bs, b6⟩
section NPA
variable {s : Nat → Nat} {a : Nat → Nat → Nat} {p t : Nat}
theorem nPa_o {k j : Nat} (hj : j ≠ s 31) (hk : k ≠ 35) (h37 : k = 37 → j ≠ t) : nPa s a p t (s 44) k j = a k j := by
  unfold nPa
  rw [if_neg (fun q => h37 q.1 q.2.1), if_neg (by omega), if_neg (by omega), if_neg (by omega), if_neg (by omega)]
theorem nPa_k {k j : Nat} (hk : k ≠ 32 ∧ k ≠ 33 ∧ k ≠ 34 ∧ k ≠ 35 ∧ k ≠ 37) : nPa s a p t (s 44) k j = a k j := by
  unfold nPa
  rw [if_neg (by omega), if_neg (by omega), if_neg (by omega), if_neg (by omega), if_neg (by omega)]
theorem nPa_35 {g j : Nat} (hg : g ≠ s 31) (h44 : s 44 ≤ 12) (hj : j < 12) : nPa s a p t (s 44) 35 (12 * g + j) = a 35 (12 * g + j) := by
  unfold nPa
  rw [if_neg (by omega), if_neg (by omega), if_neg (by omega), if_neg (by omega), if_neg (by omega)]
theorem nPa_n35 {j : Nat} (hj : j < s 44) : nPa s a p t (s 44) 35 (12 * s 31 + j) = a 45 j := by
  unfold nPa
  rw [if_neg (by omega), if_neg (by omega), if_neg (by omega), if_neg (by omega), if_pos (by omega)]
  congr 1
  omega
theorem nPa_n34 : nPa s a p t (s 44) 34 (s 31) = s 44 := by simp [nPa]
theorem nPa_n32 : nPa s a p t (s 44) 32 (s 31) = p := by simp [nPa]
theorem nPa_n33 : nPa s a p t (s 44) 33 (s 31) = t := by simp [nPa]
theorem pgN_n (q : Nat) : cntN (fun g => nPa s a p t (s 44) 32 g == q) (s 31) = pgN s a q ∧ nthN (fun g => nPa s a p t (s 44) 32 g == q) (s 31) = pgO s a q := by
  have e : ∀ g, g < s 31 → (nPa s a p t (s 44) 32 g == q) = (a 32 g == q) := fun g hg => by rw [nPa_o (by omega) (by omega) (by omega)]
  exact ⟨cntN_cg e, nthN_cg e⟩
end NPA
section X8M
variable {B : gB} {h : gHp} {d E v mi : Nat} {Y : gYm} {ow : Nat → gTag} {rl : List (Nat × List (Nat × Nat))} {s : Nat → Nat} {a : Nat → Nat → Nat} {Q : Option Value → gHp → Prop}
set_option maxRecDepth 100000 in
set_option maxHeartbeats 3200000 in
/-- the state in which the new page's row is there, but not the page -/
theorem DS.row {p t : Nat} (hd : DS E Y ow v rl h s a) (wp : WP s a) (h59 : ∀ i, i < s 57 → a 59 i < s 31) (ht : t < s 36) : DS E Y ow v rl h s (nPa s a p t (s 44)) := by
  obtain ⟨own, d0, df, dt, db, dl, dp, dg, dx, da, dh, du, dr⟩ := id hd
  obtain ⟨c0, i24, i25, i44, ⟨r1, r3, r5, r6, r7, r8, r9⟩, ⟨r11, r12, r13⟩, hm, hm1, hm2, hm3⟩ := id d0
  have l5 := dl.1.1
  have l6 := dl.2.1.1
  have l7 := dl.2.2.1.1
  have l8 := dl.2.2.2.1.1
  have l9 := dl.2.2.2.2.1
  have wpb := wp.1
  have hf : FRO ow [] h h := FRO.rf h
  have ek := fun k j hk => nPa_k (s := s) (a := a) (p := p) (t := t) (k := k) (j := j) hk
  have own2 : OWN Y ow h s (nPa s a p t (s 44)) := fun r i k hv => own r i k (by
    match r, hv with
    | 0, hv => exact hv
    | 1, hv => exact hv
    | 2, hv => exact ⟨hv.1, by have := hv.2; unfold pgN at this; rw [(pgN_n i).1] at this; exact this⟩
    | 3, hv => exact hv
    | 4, hv => exact hv
    | 5, hv => exact hv
    | 6, hv => exact hv
    | 7, hv => exact hv
    | 8, hv => exact hv
    | (n + 9), hv => exact hv.elim)
  have d02 := D0.K (a' := nPa s a p t (s 44)) own hf (by simp) ⟨rfl, rfl, rfl⟩ ⟨rfl, rfl, rfl⟩ (fun k _ => ek 43 k (by omega)) d0
  have df2 := DF.K (a' := nPa s a p t (s 44)) own hf (by simp) rfl rfl (fun j => ek 26 j (by omega)) df
  have dt2 := DT.K (a' := nPa s a p t (s 44)) own hf (by simp) rfl (Nat.le_refl _) (fun j => ek 45 j (by omega)) dt
  have dp2 : DP E Y h s (nPa s a p t (s 44)) := fun q hq => DP.K own hf hq (by simp) ⟨fun _ => rfl, fun _ _ => rfl⟩ ⟨(pgN_n q).1, (pgN_n q).2, ek 28 q (by omega), ek 29 q (by omega), ek 30 q (by omega)⟩ (dp q hq)
  have dg2 : DG Y h s (nPa s a p t (s 44)) := DG.K own wp hf (by simp) ⟨fun _ _ => rfl, fun _ _ => rfl, fun _ _ => rfl⟩ rfl (fun g hg => ⟨nPa_o (by omega) (by omega) (by omega), nPa_o (by omega) (by omega) (by omega)⟩) dg
  have dx2 : DX Y h s (nPa s a p t (s 44)) := fun u hu => by
    have w37 := (wp.2.2.2.2.1 u hu).1
    have e37 : nPa s a p t (s 44) 37 u = a 37 u := by unfold nPa; rw [if_neg (by omega), if_neg (by omega), if_neg (by omega), if_neg (by omega), if_neg (by omega)]
    exact DX.K own hf hu (by simp) (fun _ => rfl) ⟨e37, ek 38 u (by omega), ek 39 u (by omega), nPa_o (by omega) (by omega) (by omega), fun j hj => nPa_35 (by omega) (by omega) hj, fun j _ => ek 40 _ (by omega), fun j _ => ek 41 _ (by omega), fun j _ => ek 42 _ (by omega), fun b _ => ek 56 _ (by omega)⟩ (dx u hu)
  have da2 : DA Y h s (nPa s a p t (s 44)) := fun b hb => DA.K own hf hb (by simp) (fun _ => rfl) ⟨Nat.le_refl _, cntN_cg (fun i _ => by rw [ek 58 i (by omega)])⟩ ⟨ek _ _ (by omega), ek _ _ (by omega), ek _ _ (by omega), ek _ _ (by omega), ek _ _ (by omega), ek _ _ (by omega), ek _ _ (by omega), fun j _ => ek _ _ (by omega), fun j _ => ek _ _ (by omega)⟩ (da b hb)
  have dh2 : DH Y h s (nPa s a p t (s 44)) := fun i hi => DH.K own hf hi (by simp) (fun _ => rfl) ⟨ek _ _ (by omega), ek _ _ (by omega), ek _ _ (by omega), nPa_o (by have := h59 i hi; omega) (by omega) (by omega), fun k _ => ek _ _ (by omega)⟩ (dh i hi)
  have du2 := DU.K (a' := nPa s a p t (s 44)) own hf (by simp) rfl rfl (fun j => ek 1 j (by omega)) du
  exact ⟨own2, d02, df2, dt2, db, dl, dp2, dg2, dx2, da2, dh2, du2, dr⟩
end X8M
