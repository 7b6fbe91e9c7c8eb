/-! THE LAW: the state after page, paper, feed, rules, ask, narrow, stop, look, answer -/
section JIT
variable {s s' : Nat → Nat} {a a' : Nat → Nat → Nat} {rl rl2 : List (Nat × List (Nat × Nat))}
set_option maxRecDepth 100000 in
set_option maxHeartbeats 1600000 in
theorem J_page {p t : Nat} (j : JI s a rl) (hp : p < s 27) (h0 : 0 < s 44) (h31 : s 31 < 120) (ht : t ≤ s 36) (hd : t < s 36 → dft s a (a 37 t) = true) : JI (nPf s t) (nPa s a p t (s 44)) rl := by
  obtain ⟨⟨⟨c24, c25, d25, c27, c31, c36, c44⟩, k26, k28, k32, k37, k38, k43, k45⟩, wa, pz, pr, jr⟩ := j
  have e36 : nPf s t 36 = if t = s 36 then s 36 + 1 else s 36 := by
    unfold nPf
    by_cases q : t = s 36
    · rw [if_neg (by omega), if_neg (by omega), if_pos ⟨rfl, q⟩, if_pos q]
    · rw [if_neg (by omega), if_neg (by omega), if_neg (fun w => q w.2), if_neg q]
  have le36 : s 36 ≤ nPf s t 36 := by rw [e36]; split <;> omega
  have t36 : t < nPf s t 36 := by rw [e36]; split <;> omega
  have e31 : nPf s t 31 = s 31 + 1 := rfl
  have n37 : t = s 36 → nPa s a p t (s 44) 37 t = s 31 := fun q => by unfold nPa; rw [if_pos ⟨rfl, rfl, q⟩]
  have o37 : ∀ z, z < s 36 → nPa s a p t (s 44) 37 z = a 37 z := fun z hz => by
    unfold nPa
    rw [if_neg (fun w => by omega), if_neg (by omega), if_neg (by omega), if_neg (by omega), if_neg (by omega)]
  refine ⟨⟨⟨c24, c25, d25, c27, h31, ?_, Nat.zero_le _⟩, k26, k28, fun g hg => ?_, fun z hz => ?_, k38, k43, fun k hk => absurd hk (Nat.not_lt_zero k)⟩, wa, ⟨fun z h1 h2 => pz.1 z (Nat.le_trans le36 h1) h2, pz.2.1, pz.2.2.1, fun i hi => ⟨(pz.2.2.2.1 i hi).1, Nat.lt_succ_of_lt (pz.2.2.2.1 i hi).2⟩, pz.2.2.2.2⟩, fun g hg => ?_, jr.cg rfl jr.2.2.2.2.2.2 (fun k j e => nPa_k (by omega)) jr.2.2.2.1 jr.2.2.2.2.1 jr.2.2.2.2.2.1⟩
  · rw [e36, e31]; split <;> omega
  · have hg' : g < s 31 + 1 := hg
    by_cases q : g = s 31
    · subst q
      rw [nPa_n32, nPa_n33, nPa_n34]
      exact ⟨hp, t36, h0, c44, fun k hk => by rw [nPa_n35 hk]; exact k45 k hk⟩
    · have kg := k32 g (by omega)
      rw [nPa_o q (by omega) (by omega), nPa_o q (by omega) (by omega), nPa_o q (by omega) (by omega)]
      exact ⟨kg.1, Nat.lt_of_lt_of_le kg.2.1 le36, kg.2.2.1, kg.2.2.2.1, fun k hk => by rw [nPa_35 q c44 (Nat.lt_of_lt_of_le hk kg.2.2.2.1)]; exact kg.2.2.2.2 k hk⟩
  · by_cases q : z < s 36
    · rw [o37 z q]
      exact ⟨Nat.lt_succ_of_lt (k37 z q).1, (k37 z q).2⟩
    · have e : t = s 36 ∧ z = t := by
        rw [e36] at hz
        split at hz <;> omega
      have z39 := (pz.1 z (by omega) (by omega)).2.1
      rw [e.2, n37 e.1]
      refine ⟨Nat.lt_succ_self _, ?_, fun i hi => ?_⟩
      · show a 39 t ≤ 4
        rw [← e.2, z39]; omega
      · have hi' : i < a 39 t := hi
        rw [← e.2, z39] at hi'
        omega
  · have hg' : g < s 31 + 1 := hg
    by_cases q : g = s 31
    · subst q
      rw [nPa_n33, nPa_n34]
      by_cases w : t = s 36
      · rw [n37 w, nPa_n34]
        exact ⟨rfl, fun _ _ => rfl⟩
      · have tl : t < s 36 := by omega
        have r := (k37 t tl).1
        have rn : a 37 t ≠ s 31 := by omega
        have d := hd tl
        rw [dft, Bool.and_eq_true] at d
        rw [o37 t tl, nPa_o rn (by omega) (by omega)]
        refine ⟨by simpa using d.1, fun k hk => ?_⟩
        rw [nPa_35 rn c44 (by omega), nPa_n35 hk]
        simpa using (allN_iff _ _).mp d.2 k hk
    · have kg := k32 g (by omega)
      have r := (k37 _ kg.2.1).1
      have rn : a 37 (a 33 g) ≠ s 31 := by omega
      have pg := pr g (by omega)
      rw [nPa_o q (by omega) (by omega), nPa_o q (by omega) (by omega), o37 _ kg.2.1, nPa_o rn (by omega) (by omega)]
      refine ⟨pg.1, fun k hk => ?_⟩
      rw [nPa_35 rn c44 (by omega), nPa_35 q c44 (by omega)]
      exact pg.2 k hk
theorem J_pp {i j : Nat} (J : JI s a rl) (hi : i < s 25) (hj : j ≤ s 24) (h40 : s 27 < 40) : JI (va_up s 27 (s 27 + 1)) (nPp s a i j) rl := by
  obtain ⟨wp, wa, pz, pr, jr⟩ := J
  exact ⟨WP_p wp pz hi hj h40, wa, PZ_p pz, pr, jr.cg rfl jr.2.2.2.2.2.2 (fun k j e => by unfold nPp; rw [up2_eq, if_neg (by omega), up2_eq, if_neg (by omega)]) jr.2.2.2.1 jr.2.2.2.2.1 jr.2.2.2.2.2.1⟩
theorem J_paper {i j t : Nat} (J : JI s a rl) (hi : i < s 25) (hj : j ≤ s 24) (h0 : 0 < s 44) (h40 : s 27 < 40) (h31 : s 31 < 120) (ht : t ≤ s 36) (hd : t < s 36 → dft s a (a 37 t) = true) : JI (nPf (va_up s 27 (s 27 + 1)) t) (nPa (va_up s 27 (s 27 + 1)) (nPp s a i j) (s 27) t (s 44)) rl :=
  J_page (s := va_up s 27 (s 27 + 1)) (a := nPp s a i j) (p := s 27) (J_pp J hi hj h40) (Nat.lt_succ_self _) h0 h31 ht (fun q => (dft_pp s a i j _ _).trans (hd q))
theorem J_feed {u v w : Int64} (J : JI s a rl) : JI (va_up s 2 (fdV u v w (s 2, a 1)).1) (tpA a (fdV u v w (s 2, a 1)).2) rl := by
  obtain ⟨wp, wa, pz, pr, jr⟩ := J
  exact ⟨wp, wa, pz, pr, jr.cg rfl (lyF_le _ _ _ (lyF_le _ _ _ (lyF_le _ _ _ jr.2.2.2.2.2.2))) (fun k j e => by unfold tpA; rw [if_neg (by omega)]) jr.2.2.2.1 jr.2.2.2.2.1 jr.2.2.2.2.2.1⟩
theorem J_narrow {b w : Nat} (J : JI s a rl) (hb : b < s 46) (h1 : 1 ≤ w) (h2 : w ≤ 99) (h4 : a 50 b < 4) : JI s (nwA a b w) rl := by
  obtain ⟨wp, wa, pz, pr, jr⟩ := J
  exact ⟨wp, WA_nw wa hb h4 h1 h2, pz, pr, jr.cg rfl jr.2.2.2.2.2.2 (fun k j e => by unfold nwA; rw [up2_eq, if_neg (by omega), up2_eq, if_neg (by omega)]) jr.2.2.2.1 jr.2.2.2.2.1 jr.2.2.2.2.2.1⟩
theorem J_stop {b v : Nat} (J : JI s a rl) (hv : v ≤ s 24 + 1) : JI s (up2 a 54 b v) rl := by
  obtain ⟨wp, wa, pz, pr, jr⟩ := J
  refine ⟨wp, ⟨wa.1, fun c hc => ?_⟩, pz, pr, jr.cg rfl jr.2.2.2.2.2.2 (fun k j e => by rw [up2_eq, if_neg (by omega)]) jr.2.2.2.1 jr.2.2.2.2.1 jr.2.2.2.2.2.1⟩
  obtain ⟨w1, w2, w3, w4, w5, w6, w7, w8⟩ := wa.2 c hc
  refine ⟨w1, w2, w3, w4, w5, w6, w7, ?_⟩
  rw [up2_eq]
  split
  · exact hv
  · exact w8
theorem J_st {b u : Nat} (J : JI s a rl) (hb : b < s 46) : JI s (stU a b u (s 24)) rl := by
  obtain ⟨wp, wa, pz, pr, jr⟩ := J
  have c24 := wp.1.1
  refine ⟨wp, wa, ⟨pz.1, pz.2.1, fun c h1 h2 => ⟨fun d hd => ?_, (pz.2.2.1 c h1 h2).2⟩, pz.2.2.2⟩, pr, jr.cg rfl jr.2.2.2.2.2.2 (fun k j e => by unfold stU; rw [if_neg (by omega)]) (fun j => ?_) jr.2.2.2.2.1 jr.2.2.2.2.2.1⟩
  · unfold stU
    rw [if_neg (by omega)]; exact (pz.2.2.1 c h1 h2).1 d hd
  · unfold stU
    split
    · omega
    · exact jr.2.2.2.1 j
theorem J_look (J : JI s a rl) (ha : ∀ k j, k ≠ 62 → k ≠ 63 → a' k j = a k j) (h62 : ∀ j, a' 62 j ≤ 1) : JI s a' rl := by
  have e : a' = fun k j => if k = 62 ∨ k = 63 then a' k j else a k j := funext fun k => funext fun j => by
    split
    · rfl
    · exact ha k j (by omega) (by omega)
  obtain ⟨wp, wa, pz, pr, jr⟩ := J
  have jr' := jr.cg (s' := s) (a' := a') rfl jr.2.2.2.2.2.2 (fun k j e => ha k j (by omega) (by omega)) (fun j => by rw [ha 55 j (by omega) (by omega)]; exact jr.2.2.2.1 j) (fun j => by rw [ha 56 j (by omega) (by omega)]; exact jr.2.2.2.2.1 j) h62
  refine ⟨?_, ?_, ?_, ?_, jr'⟩
  · rw [e]; exact wp
  · rw [e]; exact wa
  · rw [e]; exact pz
  · rw [e]; exact pr
theorem J_rules (J : JI s a rl) (rk : RK s a s' a') (h6 : ∀ j, a' 6 j < 2 ^ 62) (hl : RLP s' a' rl2) : JI s' a' rl2 := by
  obtain ⟨wp, wa, pz, pr, jr⟩ := J
  obtain ⟨r1, r2, r3⟩ := rk
  have e : a' = fun k j => if k < 22 then a' k j else a k j := funext fun k => funext fun j => by
    split
    · rfl
    · exact r3 k j (by omega) (by omega) (by omega)
  have e' : s' = fun k => if k < 24 then s' k else s k := funext fun k => by
    split
    · rfl
    · exact r1 k (by omega) (by omega) (by omega) (by omega) (by omega) (by omega) (by omega) (by omega)
  refine ⟨?_, ?_, ?_, ?_, hl, ?_, h6, fun j => by rw [e]; exact jr.2.2.2.1 j, fun j => by rw [e]; exact jr.2.2.2.2.1 j, fun j => by rw [e]; exact jr.2.2.2.2.2.1 j, by omega⟩
  · rw [e, e']; exact wp
  · rw [e, e']; exact wa
  · rw [e, e']; exact pz
  · rw [e, e']; exact pr
  · unfold W9
    simp only [r3 9 _ (by omega) (by omega) (by omega)]
    exact jr.2.1
end JIT
