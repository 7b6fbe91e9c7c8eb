/-! THE DESK: a new gift -/
section X8U
variable {B : gB} {h h' : gHp} {d E v mi : Nat} {Y : gYm} {ow : Nat → gTag} {rl : List (Nat × List (Nat × Nat))} {s : Nat → Nat} {a : Nat → Nat → Nat} {Q : Option Value → gHp → Prop}
theorem gvF_56 {b g b' t : Nat} (hb : b' ≠ b) (ht : t < 120) (h33 : a 33 g < 120) : gvF s a rl b g 56 (120 * b' + t) = a 56 (120 * b' + t) := by
  unfold gvF
  rw [up2_eq, if_neg (by omega)]
  simp [gvA]
theorem gvF_56t {b g b' t : Nat} (ht : t < 120) (h33 : a 33 g < 120) (hn : t ≠ a 33 g) : gvF s a rl b g 56 (120 * b' + t) = a 56 (120 * b' + t) := by
  unfold gvF
  rw [up2_eq, if_neg (by omega)]
  simp [gvA]
theorem gvF_56s {b g b' : Nat} : gvF s a rl b g 56 (120 * b' + a 33 g) = if b' = b then 1 else a 56 (120 * b' + a 33 g) := by
  unfold gvF
  rw [up2_eq]
  by_cases e : b' = b
  · rw [if_pos (by omega), if_pos e]
  · rw [if_neg (by omega), if_neg e]
    simp [gvA]
theorem gvF_o {b g k i : Nat} (hi : i ≠ s 57) (hk : k ≠ 61) (hk2 : k ≠ 56) : gvF s a rl b g k i = a k i := by
  unfold gvF
  rw [up2_eq, if_neg (by omega)]
  unfold gvA
  rw [if_neg (by omega), if_neg (by omega), if_neg (by omega), if_neg (by omega)]
theorem gvF_61 {b g i k : Nat} (hi : i < s 57) (hk : k < 12) : gvF s a rl b g 61 (12 * i + k) = a 61 (12 * i + k) := by
  unfold gvF
  rw [up2_eq, if_neg (by omega)]
  unfold gvA
  rw [if_neg (by omega), if_neg (by omega), if_neg (by omega), if_neg (by omega)]
theorem gvF_n61 {b g k : Nat} (hk : k < a 34 g) : gvF s a rl b g 61 (12 * s 57 + k) = shown s a rl g k := by
  unfold gvF
  rw [up2_eq, if_neg (by omega)]
  unfold gvA
  rw [if_neg (by omega), if_neg (by omega), if_neg (by omega), if_pos (by omega)]
  congr 1
  omega
theorem gvF_cnt {b g b' : Nat} : cntN (fun i => gvF s a rl b g 58 i == b') (s 57 + 1) = cntN (fun i => a 58 i == b') (s 57) + (if b = b' then 1 else 0) := by
  show cntN (fun i => gvF s a rl b g 58 i == b') (s 57) + (if (gvF s a rl b g 58 (s 57) == b') = true then 1 else 0) = _
  have e1 : gvF s a rl b g 58 (s 57) = b := by simp [gvF, gvA, up2_eq]
  rw [cntN_cg (fun i hi => by rw [gvF_o (by omega) (by omega) (by omega)]), e1]
  simp
set_option maxRecDepth 100000 in
set_option maxHeartbeats 6400000 in
theorem DS.gft {x w e' b g : Nat} (hd : DS E Y ow v rl h s a) (wp : WP s a) (pz : PZ s a) (hb : b < s 46) (hg : g < s 31) (x0 : hK h x = 0) (w0 : hK h w = 0) (wx : w ≠ x) (ff : ∀ (ow : Nat → gTag) T, ow (Y 0 9 0) ∈ T → (s 57 ≠ 0 → ow (Y 1 9 0) ∈ T) → ow (Y 5 b 0) ∈ T → ow (Y 4 (a 33 g) 0) ∈ T → FRO ow T h h') (G : GFT h' x w b g (s 24) (cntN (isBlk s a rl g) (a 34 g)) (a 34 g)) (A : ∀ k, k < a 34 g → hA h' 12 w k = nI (shown s a rl g k)) (da' : DA1 Y h' (va_up s 57 (s 57 + 1)) (gvF s a rl b g) b) (dx' : DX1 Y h' (gvF s a rl b g) (a 33 g)) (L9 : LST E h' (Y 0 9 0) e' (s 57 + 1) 2 (va_up (fun i => Y 6 i 0) (s 57) x)) (he : s 57 ≠ 0 ∧ e' = Y 1 9 0 ∨ hK h e' = 0 ∧ hK h' e' = 16 ∧ x ≠ e' ∧ w ≠ e') : ∃ Y2 ow2, DS E Y2 ow2 v rl h' (va_up s 57 (s 57 + 1)) (gvF s a rl b g) ∧ FR9 ow h h' ∧ (∀ b, hK h b ≠ 0 → ow2 b = ow b) ∧ (∀ r, r ≠ 6 → r ≠ 1 → Y2 r = Y r) := by
  obtain ⟨own, d0, df, dt, db, dl, dp, dg, dx, da, dh, du, dr⟩ := id hd
  obtain ⟨c0, i24, i25, i44, ⟨r1, r3, r5, r6, r7, r8, r9⟩, ⟨r11, r12, r13⟩, hm, hm1, hm2, hm3⟩ := id d0
  have l5 := dl.1.1
  have l6 := dl.2.1.1
  have l7 := dl.2.2.1.1
  have l8 := dl.2.2.2.1.1
  have l9 := dl.2.2.2.2.1
  have wpb := wp.1
  have wgg := wp.2.2.2.1 g hg
  generalize hw : va_up (va_up ow x (6, s 57, 0)) w (6, s 57, 4) = ow1
  have o1x : ow1 x = (6, s 57, 0) := by rw [← hw, va_up_eq, if_neg (fun q => wx q.symm), va_up_eq, if_pos rfl]
  have o1w : ow1 w = (6, s 57, 4) := by rw [← hw, va_up_eq, if_pos rfl]
  have o1o : ∀ b, hK h b ≠ 0 → ow1 b = ow b := fun b hb => by rw [← hw, va_up_eq, if_neg (fun q => hb (by rw [q]; exact w0)), va_up_eq, if_neg (fun q => hb (by rw [q]; exact x0))]
  have own1 : OWN Y ow1 h s a := by rw [← hw]; exact (own.add x0).add w0
  have o09 := (own1 0 9 0 (And.intro (by omega) (by omega))).2
  have o19 : s 57 ≠ 0 → ow1 (Y 1 9 0) = (1, 9, 0) := fun q => (own1 1 9 0 (And.intro rfl (by omega))).2
  have o50 := (own1 5 b 0 (And.intro (by omega) (by omega))).2
  have o43 := (own1 4 (a 33 g) 0 (And.intro wgg.2.1 (Or.inl rfl))).2
  have hf : FRO ow1 [(0, 9, 0), (1, 9, 0), (5, b, 0), (4, a 33 g, 0)] h h' := ff ow1 _ (by simp [o09]) (fun q => by simp [o19 q]) (by simp [o50]) (by simp [o43])
  obtain ⟨g1, g2, g3, g4, g5, g6, g7, g8⟩ := id G
  have ke : hK h' e' ≠ 0 := by
    rcases he with ⟨q1, q2⟩ | ⟨_, q2, _⟩
    · have := (own1 1 9 0 (And.intro rfl (by omega))).1
      rw [q2, (hf.1 _ this).1]; exact this
    · omega
  have ow2o : ∀ b, hK h b ≠ 0 → va_up ow1 e' (1, 9, 0) b = ow1 b := fun b hb => by
    rw [va_up_eq]
    by_cases q : b = e'
    · rw [if_pos q]
      rcases he with ⟨q1, q2⟩ | ⟨q1, _⟩
      · rw [q, q2]; exact (o19 q1).symm
      · rw [q] at hb; exact absurd q1 hb
    · rw [if_neg q]
  have nxe : x ≠ e' ∧ w ≠ e' := by
    rcases he with ⟨q1, q2⟩ | ⟨_, _, q3⟩
    · have := (own1 1 9 0 (And.intro rfl (by omega))).1
      exact ⟨fun q => this (by rw [← q2, ← q]; exact x0), fun q => this (by rw [← q2, ← q]; exact w0)⟩
    · exact q3
  generalize hY : (fun r j k => if r = 6 ∧ j = s 57 then (if k = 0 then x else w) else if r = 1 ∧ j = 9 ∧ k = 0 then e' else Y r j k) = Y'
  have yo : ∀ r j k, ¬ (r = 6 ∧ j = s 57) → ¬ (r = 1 ∧ j = 9 ∧ k = 0) → Y' r j k = Y r j k := fun r j k q1 q2 => by rw [← hY]; simp only [if_neg q1, if_neg q2]
  have yx : Y' 6 (s 57) 0 = x := by rw [← hY]; simp
  have yw : Y' 6 (s 57) 4 = w := by rw [← hY]; simp
  have ye : Y' 1 9 0 = e' := by rw [← hY]; simp
  have yr : ∀ r, r ≠ 6 → r ≠ 1 → Y' r = Y r := fun r q1 q2 => by funext j k; exact yo r j k (by omega) (by omega)
  have y0 := yr 0 (by omega) (by omega)
  have y2 := yr 2 (by omega) (by omega)
  have y3 := yr 3 (by omega) (by omega)
  have y4 := yr 4 (by omega) (by omega)
  have y5 := yr 5 (by omega) (by omega)
  have y7 := yr 7 (by omega) (by omega)
  have y8 := yr 8 (by omega) (by omega)
  have own' := own1.F hf
  have own6 : OWN Y' (va_up ow1 e' (1, 9, 0)) h' (va_up s 57 (s 57 + 1)) (gvF s a rl b g) := by
    intro r j k hv
    have old : vld s a r j k → ¬ (r = 6 ∧ j = s 57) → ¬ (r = 1 ∧ j = 9 ∧ k = 0) → hK h' (Y' r j k) ≠ 0 ∧ va_up ow1 e' (1, 9, 0) (Y' r j k) = (r, j, k) := fun hv q1 q2 => by
      rw [yo r j k q1 q2]
      exact ⟨(own' r j k hv).1, by rw [ow2o _ (own1 r j k hv).1]; exact (own1 r j k hv).2⟩
    match r, hv with
    | 0, hv => exact old hv (by omega) (by omega)
    | 1, hv =>
      have ek : k = 0 := hv.1
      have hw : j = 5 ∧ 0 < s 27 ∨ j = 6 ∧ 0 < s 31 ∨ j = 7 ∧ 0 < s 36 ∨ j = 8 ∧ 0 < s 46 ∨ j = 9 ∧ 0 < s 57 + 1 := hv.2
      subst ek
      by_cases q : j = 9
      · subst q
        rw [ye]
        exact ⟨ke, by rw [va_up_eq, if_pos rfl]⟩
      · exact old ⟨rfl, by omega⟩ (by omega) (by omega)
    | 2, hv => exact old hv (by omega) (by omega)
    | 3, hv => exact old hv (by omega) (by omega)
    | 4, hv => exact old hv (by omega) (by omega)
    | 5, hv => exact old hv (by omega) (by omega)
    | 6, hv =>
      have hj : j < s 57 + 1 := hv.1
      have hk : k = 0 ∨ k = 4 := hv.2
      by_cases q : j = s 57
      · subst q
        rcases hk with rfl | rfl
        · rw [yx]; exact ⟨by omega, by rw [va_up_eq, if_neg nxe.1]; exact o1x⟩
        · rw [yw]; exact ⟨by omega, by rw [va_up_eq, if_neg nxe.2]; exact o1w⟩
      · exact old ⟨show j < s 57 by omega, hk⟩ (by omega) (by omega)
    | 7, hv => exact old hv (by omega) (by omega)
    | 8, hv => exact old hv (by omega) (by omega)
    | (n + 9), hv => exact hv.elim
  have nT : ∀ r i k, r ≠ 0 → r ≠ 1 → r ≠ 5 ∧ r ≠ 4 → ¬ (r, i, k) ∈ [(0, 9, 0), (1, 9, 0), (5, b, 0), (4, a 33 g, 0)] := fun r i k h2 h3 h4 => by simp [h2, h3, h4.1, h4.2]
  refine ⟨Y', va_up ow1 e' (1, 9, 0), ⟨own6, D0.K own1 hf (by simp) ⟨y0, y7, y8⟩ ⟨rfl, rfl, rfl⟩ (fun k _ => rfl) d0, DF.K own1 hf (by simp) (by rw [y0]) rfl (fun j => rfl) df, DT.K own1 hf (by simp) (by rw [y0]) (Nat.le_refl _) (fun j => rfl) dt, DB.K own1 hf y0 db, ⟨DL.K (n := s 27) (s' := s) own1 hf (by omega) (by simp) (by simp) (by omega) (by rw [y0]) (yo _ _ _ (by omega) (by omega)) (fun i _ => by rw [y2]) dl.1, DL.K (n := s 31) (s' := s) own1 hf (by omega) (by simp) (by simp) (by omega) (by rw [y0]) (yo _ _ _ (by omega) (by omega)) (fun i _ => by rw [y3]) dl.2.1, DL.K (n := s 36) (s' := s) own1 hf (by omega) (by simp) (by simp) (by omega) (by rw [y0]) (yo _ _ _ (by omega) (by omega)) (fun i _ => by rw [y4]) dl.2.2.1, DL.K (n := s 46) (s' := s) own1 hf (by omega) (by simp) (by simp) (by omega) (by rw [y0]) (yo _ _ _ (by omega) (by omega)) (fun i _ => by rw [y5]) dl.2.2.2.1, ?_⟩, fun q hq => DP.K own1 hf hq (fun k => nT 2 q k (by omega) (by omega) (by omega)) ⟨fun _ => by rw [y2], fun _ _ => by rw [y3]⟩ ⟨rfl, rfl, rfl, rfl, rfl⟩ (dp q hq), DG.K own1 wp hf (fun i k => nT 3 i k (by omega) (by omega) (by omega)) ⟨fun _ _ => by rw [y3], fun i hi => by rw [y2], fun i hi => by rw [y4]⟩ rfl (fun g hg => ⟨rfl, rfl⟩) dg, ?_, ?_, ?_, DU.K own1 hf ⟨nT 7 0 0 (by omega) (by omega) (by omega), nT 7 0 4 (by omega) (by omega) (by omega)⟩ y7 rfl (fun j => rfl) du, DR.K own1 hf (fun q k _ => nT 8 q k (by omega) (by omega) (by omega)) y8 dr⟩, (hf.cw o1o).n9 (by simp), fun b hb => by rw [ow2o b hb]; exact o1o b hb, yr⟩
  · rw [show Y' 0 9 0 = Y 0 9 0 by rw [y0], ye]
    exact L9.M (SAM.rf _ _) (fun _ => SAM.rf _ _) (fun i hi => ⟨by
      by_cases q : i = s 57
      · subst q; rw [yx, va_up_eq, if_pos rfl]
      · rw [yo 6 i 0 (by omega) (by omega), va_up_eq, if_neg q], rfl⟩)
  · intro u hu
    have hu : u < s 36 := hu
    by_cases e : u = a 33 g
    · rw [e]
      unfold DX1 at dx' ⊢
      rw [y4]
      exact dx'
    · exact DX.K own1 hf hu (fun k => by simp; omega) (fun _ => by rw [y4]) ⟨rfl, rfl, rfl, rfl, fun _ _ => rfl, fun _ _ => rfl, fun _ _ => rfl, fun _ _ => rfl, fun _ _ => gvF_56t (by omega) (by omega) e⟩ (dx u hu)
  · intro b' hb'
    have hb' : b' < s 46 := hb'
    by_cases e : b' = b
    · rw [e]
      unfold DA1 at da' ⊢
      rw [y5]
      exact da'
    · exact DA.K own1 hf hb' (fun k => by simp; omega) (fun _ => by rw [y5]) ⟨Nat.le_refl _, by
        have := gvF_cnt (s := s) (a := a) (rl := rl) (b := b) (g := g) (b' := b')
        rw [if_neg (fun q => e q.symm)] at this
        exact this⟩ ⟨rfl, rfl, rfl, rfl, rfl, rfl, rfl, fun _ _ => rfl, fun _ _ => rfl⟩ (da b' hb')
  · intro i hi
    have hi : i < s 57 + 1 := hi
    by_cases e : i = s 57
    · subst e
      have e58 : gvF s a rl b g 58 (s 57) = b := by simp [gvF, gvA, up2_eq]
      have e59 : gvF s a rl b g 59 (s 57) = g := by simp [gvF, gvA, up2_eq]
      have e60 : gvF s a rl b g 60 (s 57) = s 24 := by simp [gvF, gvA, up2_eq]
      have e34 : gvF s a rl b g 34 g = a 34 g := rfl
      have ec : cntN (fun k => gvF s a rl b g 61 (12 * s 57 + k) == 0) (a 34 g) = cntN (isBlk s a rl g) (a 34 g) := cntN_cg (fun k hk => by
        rw [gvF_n61 hk]
        have := (wgg.2.2.2.2 k hk).1
        unfold shown
        rcases isBlk s a rl g k
        · simp; omega
        · simp)
      unfold DH1
      rw [e58, e59, e60, e34, ec, yx, yw]
      exact ⟨g1, g2, g3, g4, g5, g6, g7, g8, fun k hk => by rw [gvF_n61 hk]; exact A k hk⟩
    · have hi : i < s 57 := by omega
      have l12 := (wp.2.2.2.1 (a 59 i) (pz.2.2.2.1 i hi).2).2.2.2.1
      exact DH.K own1 hf hi (fun k => nT 6 i k (by omega) (by omega) (by omega)) (fun k => yo 6 i k (by omega) (by omega)) ⟨gvF_o e (by omega) (by omega), gvF_o e (by omega) (by omega), gvF_o e (by omega) (by omega), rfl, fun k hk => gvF_61 hi (by omega)⟩ (dh i hi)
end X8U
