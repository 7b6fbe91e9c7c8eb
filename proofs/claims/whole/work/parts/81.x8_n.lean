/-! THE DESK: a new text -/
section X8N
variable {B : gB} {h h' : gHp} {d E v mi : Nat} {Y : gYm} {ow : Nat → gTag} {rl : List (Nat × List (Nat × Nat))} {s : Nat → Nat} {a : Nat → Nat → Nat} {Q : Option Value → gHp → Prop}
/-- the lists of the desk, but one -/
theorem DL.K {Y' : gYm} {T : List gTag} {s' : Nat → Nat} (own : OWN Y ow h s a) (hf : FRO ow T h h') {k n ci r : Nat} (hk : k = 5 ∨ k = 6 ∨ k = 7 ∨ k = 8 ∨ k = 9) (h1 : ¬ (0, k, 0) ∈ T) (h2 : ¬ (1, k, 0) ∈ T) (hr : (k = 5 ∧ n = s 27 ∧ r = 2) ∨ (k = 6 ∧ n = s 31 ∧ r = 3) ∨ (k = 7 ∧ n = s 36 ∧ r = 4) ∨ (k = 8 ∧ n = s 46 ∧ r = 5) ∨ (k = 9 ∧ n = s 57 ∧ r = 6)) (hY0 : Y' 0 k 0 = Y 0 k 0) (hY1 : Y' 1 k 0 = Y 1 k 0) (hYr : ∀ i, i < n → Y' r i 0 = Y r i 0) (d : LST E h (Y 0 k 0) (Y 1 k 0) n ci (fun i => Y r i 0)) : LST E h' (Y' 0 k 0) (Y' 1 k 0) n ci (fun i => Y' r i 0) := by
  refine DL1.K own hf hk h1 h2 (fun i hi => ?_) (fun hn => ?_) hY0 hY1 hYr d
  · rcases hr with ⟨-, e, e2⟩ | ⟨-, e, e2⟩ | ⟨-, e, e2⟩ | ⟨-, e, e2⟩ | ⟨-, e, e2⟩ <;> subst e2
    · exact ⟨by omega, Or.inl rfl⟩
    · exact ⟨by omega, rfl⟩
    · exact ⟨by omega, Or.inl rfl⟩
    · exact ⟨by omega, Or.inl rfl⟩
    · exact ⟨by omega, Or.inl rfl⟩
  · exact ⟨rfl, by omega⟩
set_option maxRecDepth 100000 in
set_option maxHeartbeats 6400000 in
theorem DS.txn {p e' : Nat} {z : Nat → Nat} (hd : DS E Y ow v rl h s a) (wp : WP s a) (pz : PZ s a) (h120 : s 36 < 120) (hB : ∀ j, a 35 j < 2 ^ 31) (z0 : hK h (z 0) = 0) (z1 : hK h (z 1) = 0) (z4 : hK h (z 4) = 0) (z5 : hK h (z 5) = 0) (z6 : hK h (z 6) = 0) (txd : TXD z) (zx : ∀ i, i = 1 ∨ i = 4 ∨ i = 5 ∨ i = 6 → z i ≠ z 0) (ff : ∀ (ow : Nat → gTag) T, ow (Y 0 7 0) ∈ T → (s 36 ≠ 0 → ow (Y 1 7 0) ∈ T) → FRO ow T h h') (tx : TXT h' z (s 44) (fun i => if i < s 44 then a 45 i else 0) 0 (fun _ _ => 0)) (i0 : hI h' 8 0 (z 0) = nI (s 36)) (i2 : hI h' 8 2 (z 0) = nI 0) (i4 : hI h' 8 4 (z 0) = nI 0) (L7 : LST E h' (Y 0 7 0) e' (s 36 + 1) 8 (va_up (fun i => Y 4 i 0) (s 36) (z 0))) (he : s 36 ≠ 0 ∧ e' = Y 1 7 0 ∨ hK h e' = 0 ∧ hK h' e' = 16 ∧ ∀ i, (i = 0 ∨ i = 1 ∨ i = 4 ∨ i = 5 ∨ i = 6) → z i ≠ e') : ∃ Y2 ow2, DS E Y2 ow2 v rl h' (va_up s 36 (s 36 + 1)) (nPa s a p (s 36) (s 44)) ∧ FRO ow [(0, 7, 0), (1, 7, 0)] h h' ∧ (∀ b, hK h b ≠ 0 → ow2 b = ow b) ∧ Y2 0 = Y 0 ∧ Y2 2 = Y 2 ∧ Y2 3 = Y 3 ∧ Y2 4 (s 36) 0 = z 0 := by
  obtain ⟨own, d0, df, dt, db, dl, dp, dg, dx, da, dh, du, dr⟩ := id hd
  obtain ⟨c0, i24, i25, i44, ⟨r1, r3, r5, r6, r7, r8, r9⟩, ⟨r11, r12, r13⟩, hm, hm1, hm2, hm3⟩ := id d0
  have l5 := dl.1.1
  have l6 := dl.2.1.1
  have l7 := dl.2.2.1.1
  have l8 := dl.2.2.2.1.1
  have l9 := dl.2.2.2.2.1
  have wpb := wp.1
  have zz : ∀ i, (i = 0 ∨ i = 1 ∨ i = 4 ∨ i = 5 ∨ i = 6) → hK h (z i) = 0 := fun i hi => by rcases hi with rfl | rfl | rfl | rfl | rfl <;> assumption
  have zi : ∀ i j, (i = 0 ∨ i = 1 ∨ i = 4 ∨ i = 5 ∨ i = 6) → (j = 0 ∨ j = 1 ∨ j = 4 ∨ j = 5 ∨ j = 6) → z i = z j → i = j := fun i j hi hj e => by
    by_cases qi : i = 0
    · by_cases qj : j = 0
      · omega
      · exact absurd e.symm (by rw [qi]; exact zx j (by omega))
    · by_cases qj : j = 0
      · exact absurd e (by rw [qj]; exact zx i (by omega))
      · exact (txd i j (by omega) (by omega)).mp e
  generalize hw : (fun b => if b = z 0 then (4, s 36, 0) else if b = z 1 then (4, s 36, 1) else if b = z 4 then (4, s 36, 4) else if b = z 5 then (4, s 36, 5) else if b = z 6 then (4, s 36, 6) else ow b : Nat → gTag) = ow1
  have o1z : ∀ i, (i = 0 ∨ i = 1 ∨ i = 4 ∨ i = 5 ∨ i = 6) → ow1 (z i) = (4, s 36, i) := fun i hi => by
    have n : ∀ j, (j = 0 ∨ j = 1 ∨ j = 4 ∨ j = 5 ∨ j = 6) → i ≠ j → ¬ z i = z j := fun j hj q e => q (zi i j hi hj e)
    rw [← hw]
    rcases hi with rfl | rfl | rfl | rfl | rfl
    · simp
    · simp [n 0 (by omega) (by omega)]
    · simp [n 0 (by omega) (by omega), n 1 (by omega) (by omega)]
    · simp [n 0 (by omega) (by omega), n 1 (by omega) (by omega), n 4 (by omega) (by omega)]
    · simp [n 0 (by omega) (by omega), n 1 (by omega) (by omega), n 4 (by omega) (by omega), n 5 (by omega) (by omega)]
  have o1o : ∀ b, hK h b ≠ 0 → ow1 b = ow b := fun b hb => by
    have n : ∀ i, (i = 0 ∨ i = 1 ∨ i = 4 ∨ i = 5 ∨ i = 6) → ¬ b = z i := fun i hi q => hb (by rw [q]; exact zz i hi)
    rw [← hw]
    simp [n 0 (by omega), n 1 (by omega), n 4 (by omega), n 5 (by omega), n 6 (by omega)]
  have own1 : OWN Y ow1 h s a := fun r i k hv => ⟨(own r i k hv).1, by rw [o1o _ (own r i k hv).1]; exact (own r i k hv).2⟩
  have o07 := (own1 0 7 0 (And.intro (by omega) (by omega))).2
  have o17 : s 36 ≠ 0 → ow1 (Y 1 7 0) = (1, 7, 0) := fun q => (own1 1 7 0 (And.intro rfl (by omega))).2
  have hf : FRO ow1 [(0, 7, 0), (1, 7, 0)] h h' := ff ow1 _ (by simp [o07]) (fun q => by simp [o17 q])
  have kz : ∀ i, (i = 0 ∨ i = 1 ∨ i = 4 ∨ i = 5 ∨ i = 6) → hK h' (z i) ≠ 0 := fun i hi => by
    have q := tx.1
    rcases hi with rfl | rfl | rfl | rfl | rfl
    · have := q.1; omega
    · have := q.2.2.2.2.2.1; omega
    · have := q.2.2.2.2.2.2.1; omega
    · have := q.2.2.2.2.2.2.2.1; omega
    · have := q.2.2.2.2.2.2.2.2.1; omega
  have ke : hK h' e' ≠ 0 := by
    rcases he with ⟨q1, q2⟩ | ⟨_, q2, _⟩
    · have := (own1 1 7 0 (And.intro rfl (by omega))).1
      rw [q2, (hf.1 _ this).1]; exact this
    · omega
  have ow2o : ∀ b, hK h b ≠ 0 → va_up ow1 e' (1, 7, 0) b = ow1 b := fun b hb => by
    rw [va_up_eq]
    by_cases q : b = e'
    · rw [if_pos q]
      rcases he with ⟨q1, q2⟩ | ⟨q1, _⟩
      · rw [q, q2]; exact (o17 q1).symm
      · rw [q] at hb; exact absurd q1 hb
    · rw [if_neg q]
  have ow2z : ∀ i, (i = 0 ∨ i = 1 ∨ i = 4 ∨ i = 5 ∨ i = 6) → va_up ow1 e' (1, 7, 0) (z i) = (4, s 36, i) := fun i hi => by
    rw [va_up_eq, if_neg (fun q => ?_)]
    · exact o1z i hi
    · rcases he with ⟨q1, q2⟩ | ⟨_, _, q3⟩
      · have := (own1 1 7 0 (And.intro rfl (by omega))).1
        rw [← q2, ← q] at this
        exact this (zz i hi)
      · exact q3 i hi q
  generalize hY : (fun r j k => if r = 4 ∧ j = s 36 then z k else if r = 1 ∧ j = 7 ∧ k = 0 then e' else Y r j k) = Y'
  have yo : ∀ r j k, ¬ (r = 4 ∧ j = s 36) → ¬ (r = 1 ∧ j = 7 ∧ k = 0) → Y' r j k = Y r j k := fun r j k q1 q2 => by rw [← hY]; simp only [if_neg q1, if_neg q2]
  have yz : ∀ k, Y' 4 (s 36) k = z k := fun k => by rw [← hY]; simp
  have ye : Y' 1 7 0 = e' := by rw [← hY]; simp
  have yr : ∀ r, r ≠ 4 → r ≠ 1 → Y' r = Y r := fun r q1 q2 => by funext j k; exact yo r j k (by omega) (by omega)
  have y0 := yr 0 (by omega) (by omega)
  have y2 := yr 2 (by omega) (by omega)
  have y3 := yr 3 (by omega) (by omega)
  have y5 := yr 5 (by omega) (by omega)
  have y6 := yr 6 (by omega) (by omega)
  have y7 := yr 7 (by omega) (by omega)
  have y8 := yr 8 (by omega) (by omega)
  have own' := own1.F hf
  have ek := fun k j hk => nPa_k (s := s) (a := a) (p := p) (t := s 36) (k := k) (j := j) hk
  have own6 : OWN Y' (va_up ow1 e' (1, 7, 0)) h' (va_up s 36 (s 36 + 1)) (nPa s a p (s 36) (s 44)) := by
    intro r j k hv
    have old : vld s a r j k → ¬ (r = 4 ∧ j = s 36) → ¬ (r = 1 ∧ j = 7 ∧ k = 0) → hK h' (Y' r j k) ≠ 0 ∧ va_up ow1 e' (1, 7, 0) (Y' r j k) = (r, j, k) := fun hv q1 q2 => by
      rw [yo r j k q1 q2]
      exact ⟨(own' r j k hv).1, by rw [ow2o _ (own1 r j k hv).1]; exact (own1 r j k hv).2⟩
    match r, hv with
    | 0, hv => exact old hv (by omega) (by omega)
    | 1, hv =>
      have ek : k = 0 := hv.1
      have hw : j = 5 ∧ 0 < s 27 ∨ j = 6 ∧ 0 < s 31 ∨ j = 7 ∧ 0 < s 36 + 1 ∨ j = 8 ∧ 0 < s 46 ∨ j = 9 ∧ 0 < s 57 := hv.2
      subst ek
      by_cases q : j = 7
      · subst q
        rw [ye]
        exact ⟨ke, by rw [va_up_eq, if_pos rfl]⟩
      · exact old ⟨rfl, by omega⟩ (by omega) (by omega)
    | 2, hv => exact old ⟨hv.1, by have := hv.2; unfold pgN at this; rw [show cntN (fun g => nPa s a p (s 36) (s 44) 32 g == j) (va_up s 36 (s 36 + 1) 31) = pgN s a j from (pgN_n j).1] at this; exact this⟩ (by omega) (by omega)
    | 3, hv => exact old hv (by omega) (by omega)
    | 4, hv =>
      have hj : j < s 36 + 1 := hv.1
      by_cases q : j = s 36
      · subst q
        have hk : k = 0 ∨ k = 1 ∨ k = 4 ∨ k = 5 ∨ k = 6 := hv.2
        rw [yz]
        exact ⟨kz k hk, ow2z k hk⟩
      · exact old ⟨show j < s 36 by omega, hv.2⟩ (by omega) (by omega)
    | 5, hv => exact old hv (by omega) (by omega)
    | 6, hv => exact old hv (by omega) (by omega)
    | 7, hv => exact old hv (by omega) (by omega)
    | 8, hv => exact old hv (by omega) (by omega)
    | (n + 9), hv => exact hv.elim
  have nT : ∀ r i k, r ≠ 0 → r ≠ 1 → ¬ (r, i, k) ∈ [(0, 7, 0), (1, 7, 0)] := fun r i k h2 h3 => by simp [h2, h3]
  refine ⟨Y', va_up ow1 e' (1, 7, 0), ⟨own6, D0.K own1 hf (by simp) ⟨y0, y7, y8⟩ ⟨rfl, rfl, rfl⟩ (fun k _ => ek 43 k (by omega)) d0, DF.K own1 hf (by simp) (by rw [y0]) rfl (fun j => ek 26 j (by omega)) df, DT.K own1 hf (by simp) (by rw [y0]) (Nat.le_refl _) (fun j => ek 45 j (by omega)) dt, DB.K own1 hf y0 db, ⟨DL.K (n := s 27) (s' := s) own1 hf (by omega) (by simp) (by simp) (by omega) (by rw [y0]) (yo _ _ _ (by omega) (by omega)) (fun i _ => by rw [y2]) dl.1, DL.K (n := s 31) (s' := s) own1 hf (by omega) (by simp) (by simp) (by omega) (by rw [y0]) (yo _ _ _ (by omega) (by omega)) (fun i _ => by rw [y3]) dl.2.1, ?_, DL.K (n := s 46) (s' := s) own1 hf (by omega) (by simp) (by simp) (by omega) (by rw [y0]) (yo _ _ _ (by omega) (by omega)) (fun i _ => by rw [y5]) dl.2.2.2.1, DL.K (n := s 57) (s' := s) own1 hf (by omega) (by simp) (by simp) (by omega) (by rw [y0]) (yo _ _ _ (by omega) (by omega)) (fun i _ => by rw [y6]) dl.2.2.2.2⟩, fun q hq => DP.K own1 hf hq (fun k => nT 2 q k (by omega) (by omega)) ⟨fun _ => by rw [y2], fun _ _ => by rw [y3]⟩ ⟨(pgN_n q).1, (pgN_n q).2, ek 28 q (by omega), ek 29 q (by omega), ek 30 q (by omega)⟩ (dp q hq), DG.K own1 wp hf (fun i k => nT 3 i k (by omega) (by omega)) ⟨fun _ _ => by rw [y3], fun _ _ => by rw [y2], fun i hi => yo 4 i 0 (by omega) (by omega)⟩ rfl (fun g hg => ⟨nPa_o (by omega) (by omega) (by omega), nPa_o (by omega) (by omega) (by omega)⟩) dg, ?_, fun b hb => DA.K own1 hf hb (fun k => nT 5 b k (by omega) (by omega)) (fun _ => by rw [y5]) ⟨Nat.le_refl _, cntN_cg (fun i _ => by rw [ek 58 i (by omega)])⟩ ⟨ek _ _ (by omega), ek _ _ (by omega), ek _ _ (by omega), ek _ _ (by omega), ek _ _ (by omega), ek _ _ (by omega), ek _ _ (by omega), fun j _ => ek _ _ (by omega), fun j _ => ek _ _ (by omega)⟩ (da b hb), fun i hi => DH.K own1 hf hi (fun k => nT 6 i k (by omega) (by omega)) (fun _ => by rw [y6]) ⟨ek _ _ (by omega), ek _ _ (by omega), ek _ _ (by omega), nPa_o (by have := (pz.2.2.2.1 i hi).2; omega) (by omega) (by omega), fun k _ => ek _ _ (by omega)⟩ (dh i hi), DU.K own1 hf ⟨nT 7 0 0 (by omega) (by omega), nT 7 0 4 (by omega) (by omega)⟩ y7 rfl (fun j => ek 1 j (by omega)) du, DR.K own1 hf (fun q k _ => nT 8 q k (by omega) (by omega)) y8 dr⟩, hf.cw o1o, fun b hb => by rw [ow2o b hb]; exact o1o b hb, y0, y2, y3, yz 0⟩
  · rw [show Y' 0 7 0 = Y 0 7 0 by rw [y0], ye]
    exact L7.M (SAM.rf _ _) (fun _ => SAM.rf _ _) (fun i hi => ⟨by
      by_cases q : i = s 36
      · subst q; rw [yz, va_up_eq, if_pos rfl]
      · rw [yo 4 i 0 (by omega) (by omega), va_up_eq, if_neg q], rfl⟩)
  · intro u hu
    have hu : u < s 36 + 1 := hu
    by_cases q : u = s 36
    · subst q
      have pz1 := pz.1 (s 36) (Nat.le_refl _) h120
      have e37 : nPa s a p (s 36) (s 44) 37 (s 36) = s 31 := by simp [nPa]
      have eY : Y' 4 (s 36) = z := funext yz
      have e39 : nPa s a p (s 36) (s 44) 39 (s 36) = 0 := by rw [ek 39 _ (by omega)]; exact pz1.2.1
      have e38 : nPa s a p (s 36) (s 44) 38 (s 36) = 0 := by rw [ek 38 _ (by omega)]; exact pz1.1.1
      have eS : spS (nPa s a p (s 36) (s 44)) (s 36) = fun _ _ => 0 := by
        funext e i
        unfold spS
        by_cases q : 4 ≤ i
        · rw [if_pos q]
        · have := pz1.2.2 i (by omega)
          rw [if_neg q, ek 40 _ (by omega), ek 41 _ (by omega), ek 42 _ (by omega), this.1, this.2.1, this.2.2]
          repeat' split
          all_goals rfl
      unfold DX1
      rw [e37, nPa_n34, e38, e39, eS, eY]
      refine ⟨⟨i0, 0, ⟨i4, by omega⟩, fun b hb => ?_⟩, i2, tx.W (fun k hk => ?_) (fun k => ?_)⟩
      · rw [ek 56 _ (by omega), pz1.1.2 b hb, Nat.zero_div]
      · rw [if_pos (by omega), if_pos hk, nPa_n35 hk]
      · split
        · unfold nPa
          rw [if_neg (by omega), if_neg (by omega), if_neg (by omega), if_neg (by omega)]
          split
          · have := wp.2.2.2.2.2.2.2 (12 * s 31 + k - 12 * s 31) (by omega); omega
          · exact hB _
        · omega
    · have hu : u < s 36 := by omega
      have w37 := (wp.2.2.2.2.1 u hu).1
      have e37 : nPa s a p (s 36) (s 44) 37 u = a 37 u := by unfold nPa; rw [if_neg (by omega), if_neg (by omega), if_neg (by omega), if_neg (by omega), if_neg (by omega)]
      exact DX.K own1 hf hu (fun k => nT 4 u k (by omega) (by omega)) (fun k => yo 4 u k (by omega) (by omega)) ⟨e37, ek 38 u (by omega), ek 39 u (by omega), nPa_o (by omega) (by omega) (by omega), fun j hj => nPa_35 (by omega) (by omega) hj, fun j _ => ek 40 _ (by omega), fun j _ => ek 41 _ (by omega), fun j _ => ek 42 _ (by omega), fun b _ => ek 56 _ (by omega)⟩ (dx u hu)
end X8N
