/-! THE LAW: what holds of the state between two calls -/
def W9 (a : Nat → Nat → Nat) : Prop := a 9 0 = 519931663 ∧ a 9 1 = 1176170 ∧ a 9 2 = 1891 ∧ a 9 3 = 1633 ∧ a 9 4 = 5538 ∧ a 9 5 = 444789672 ∧ a 9 6 = 30047016 ∧ a 9 7 = 1402353114
def JR (s : Nat → Nat) (a : Nat → Nat → Nat) (rl : List (Nat × List (Nat × Nat))) : Prop := RLP s a rl ∧ W9 a ∧ (∀ j, a 6 j < 2 ^ 62) ∧ (∀ j, a 55 j ≤ 1) ∧ (∀ j, a 56 j ≤ 1) ∧ (∀ j, a 62 j ≤ 1) ∧ s 2 ≤ 600
def JI (s : Nat → Nat) (a : Nat → Nat → Nat) (rl : List (Nat × List (Nat × Nat))) : Prop := WP s a ∧ WA s a ∧ PZ s a ∧ PR s a ∧ JR s a rl
section JIS
variable {s s' : Nat → Nat} {a a' : Nat → Nat → Nat} {rl : List (Nat × List (Nat × Nat))}
theorem RLP.cg (h : RLP s a rl) (hs : s' 15 = s 15) (ha : ∀ k j, k = 10 ∨ k = 11 ∨ k = 12 ∨ k = 13 ∨ k = 14 → a' k j = a k j) : RLP s' a' rl := ⟨h.1.cg hs ha, fun i l e => by rw [hs, ha 12 _ (by omega)]; exact h.2.1 i l e, h.2.2⟩
/-- the rest of the state, where only its own cells may have changed -/
theorem JR.cg (j : JR s a rl) (h15 : s' 15 = s 15) (h2 : s' 2 ≤ 600) (ha : ∀ k j, k = 6 ∨ (9 ≤ k ∧ k ≤ 14) → a' k j = a k j) (z55 : ∀ j, a' 55 j ≤ 1) (z56 : ∀ j, a' 56 j ≤ 1) (z62 : ∀ j, a' 62 j ≤ 1) : JR s' a' rl := by
  obtain ⟨r, w, h6, -, -, -, -⟩ := j
  refine ⟨r.cg h15 (fun k j e => ha k j (by omega)), ?_, fun j => by rw [ha 6 j (by omega)]; exact h6 j, z55, z56, z62, h2⟩
  unfold W9
  simp only [ha 9 _ (Or.inr ⟨Nat.le_refl _, (by omega : 9 ≤ 14)⟩)]
  exact w
theorem J_days {n : Nat} (j : JI s a rl) (hn : s 24 + n ≤ 4999) : JI (va_up s 24 (s 24 + n)) a rl := by
  obtain ⟨⟨⟨c24, c25, d25, c27, c31, c36, c44⟩, k26, k28, k32, k37, k38, k43, k45⟩, wa, pz, pr, jr⟩ := j
  refine ⟨⟨⟨hn, c25, d25, c27, c31, c36, c44⟩, k26, fun p hp => ⟨(k28 p hp).1, Nat.le_trans (k28 p hp).2.1 (Nat.le_add_right _ _), (k28 p hp).2.2⟩, k32, k37, k38, k43, k45⟩, ⟨wa.1, fun b hb => ?_⟩, pz, pr, jr⟩
  obtain ⟨w1, w2, w3, w4, w5, w6, w7, w8⟩ := wa.2 b hb
  exact ⟨w1, w2, w3, w4, w5, Nat.le_trans w6 (Nat.le_add_right _ _), w7, Nat.le_trans w8 (show s 24 + 1 ≤ s 24 + n + 1 by omega)⟩
theorem J_folder {i : Nat} (j : JI s a rl) (hi : i < s 25) (hn : s 25 < 20) : JI (va_up s 25 (s 25 + 1)) (up2 a 26 (s 25) i) rl := by
  obtain ⟨⟨⟨c24, c25, d25, c27, c31, c36, c44⟩, k26, k28, k32, k37, k38, k43, k45⟩, wa, pz, pr, jr⟩ := j
  refine ⟨⟨⟨c24, Nat.le_succ_of_le c25, hn, c27, c31, c36, c44⟩, fun g h0 hg => ?_, fun p hp => ⟨Nat.lt_succ_of_lt (k28 p hp).1, (k28 p hp).2⟩, k32, k37, k38, k43, k45⟩, ⟨wa.1, fun b hb => ⟨Nat.lt_succ_of_lt (wa.2 b hb).1, (wa.2 b hb).2⟩⟩, pz, pr, jr.cg rfl jr.2.2.2.2.2.2 (fun k j e => by rw [up2_eq, if_neg (by omega)]) jr.2.2.2.1 jr.2.2.2.2.1 jr.2.2.2.2.2.1⟩
  have hg' : g < s 25 + 1 := hg
  rw [up2_eq]
  by_cases q : g = s 25
  · rw [if_pos ⟨rfl, q⟩]; omega
  · rw [if_neg (fun w => q w.2)]; exact k26 g h0 (by omega)
theorem J_word {w : Nat} (j : JI s a rl) (h1 : 1 ≤ w) (h2 : w ≤ 99) (hn : s 44 < 12) : JI (va_up s 44 (s 44 + 1)) (up2 a 45 (s 44) w) rl := by
  obtain ⟨⟨⟨c24, c25, d25, c27, c31, c36, c44⟩, k26, k28, k32, k37, k38, k43, k45⟩, wa, pz, pr, jr⟩ := j
  refine ⟨⟨⟨c24, c25, d25, c27, c31, c36, hn⟩, k26, k28, k32, k37, k38, k43, fun k hk => ?_⟩, wa, pz, pr, jr.cg rfl jr.2.2.2.2.2.2 (fun k j e => by rw [up2_eq, if_neg (by omega)]) jr.2.2.2.1 jr.2.2.2.2.1 jr.2.2.2.2.2.1⟩
  have hk' : k < s 44 + 1 := hk
  rw [up2_eq]
  by_cases q : k = s 44
  · rw [if_pos ⟨rfl, q⟩]; exact ⟨h1, h2⟩
  · rw [if_neg (fun w => q w.2)]; exact k45 k (by omega)
theorem J_heard {i : Nat} (j : JI s a rl) : JI s (up2 a 43 i 1) rl := by
  obtain ⟨⟨c, k26, k28, k32, k37, k38, k43, k45⟩, wa, pz, pr, jr⟩ := j
  refine ⟨⟨c, k26, k28, k32, k37, k38, fun j => ?_, k45⟩, wa, pz, pr, jr.cg rfl jr.2.2.2.2.2.2 (fun k j e => by rw [up2_eq, if_neg (by omega)]) jr.2.2.2.1 jr.2.2.2.2.1 jr.2.2.2.2.2.1⟩
  rw [up2_eq]
  split
  · omega
  · exact k43 j
theorem J_judge {i y : Nat} (j : JI s a rl) (hi : i < s 36) (hy : y ≤ 1) : JI s (up2 a 38 i y) rl := by
  obtain ⟨⟨c, k26, k28, k32, k37, k38, k43, k45⟩, wa, pz, pr, jr⟩ := j
  refine ⟨⟨c, k26, k28, k32, k37, fun j => ?_, k43, k45⟩, wa, ⟨fun t h1 h2 => ⟨⟨?_, (pz.1 t h1 h2).1.2⟩, (pz.1 t h1 h2).2⟩, pz.2⟩, pr, jr.cg rfl jr.2.2.2.2.2.2 (fun k j e => by rw [up2_eq, if_neg (by omega)]) jr.2.2.2.1 jr.2.2.2.2.1 jr.2.2.2.2.2.1⟩
  · rw [up2_eq]
    split
    · omega
    · exact k38 j
  · rw [up2_eq, if_neg (fun w => by omega)]; exact (pz.1 t h1 h2).1.1
theorem J_third {i m : Nat} (j : JI s a rl) (hi : i < s 27) (hm : m < 256) : JI s (up2 a 30 i m) rl := by
  obtain ⟨⟨c, k26, k28, k32, k37, k38, k43, k45⟩, wa, pz, pr, jr⟩ := j
  refine ⟨⟨c, k26, fun p hp => ⟨(k28 p hp).1, (k28 p hp).2.1, ?_⟩, k32, k37, k38, k43, k45⟩, wa, ⟨pz.1, fun p h1 h2 => ?_, pz.2.2⟩, pr, jr.cg rfl jr.2.2.2.2.2.2 (fun k j e => by rw [up2_eq, if_neg (by omega)]) jr.2.2.2.1 jr.2.2.2.2.1 jr.2.2.2.2.2.1⟩
  · rw [up2_eq]
    split
    · exact hm
    · exact (k28 p hp).2.2
  · rw [up2_eq, if_neg (fun w => by omega)]; exact pz.2.1 p h1 h2
theorem J_black {i u v w : Nat} (j : JI s a rl) (hi : i < s 36) (h4 : a 39 i < 4) (hw : w ≤ 9) : JI s (up2 (up2 (up2 (up2 a 40 (4 * i + a 39 i) u) 41 (4 * i + a 39 i) v) 42 (4 * i + a 39 i) w) 39 i (a 39 i + 1)) rl := by
  obtain ⟨⟨c, k26, k28, k32, k37, k38, k43, k45⟩, wa, pz, pr, jr⟩ := j
  refine ⟨⟨c, k26, k28, k32, fun t ht => ⟨(k37 t ht).1, ?_⟩, k38, k43, k45⟩, wa, ⟨fun t h1 h2 => ⟨(pz.1 t h1 h2).1, ?_, fun e he => ?_⟩, pz.2⟩, pr, jr.cg rfl jr.2.2.2.2.2.2 (fun k j e => by simp only [up2_eq]; repeat rw [if_neg (by omega)]) jr.2.2.2.1 jr.2.2.2.2.1 jr.2.2.2.2.2.1⟩
  · show up2 _ 39 i _ 39 t ≤ 4 ∧ ∀ e, e < up2 _ 39 i _ 39 t → up2 a 42 (4 * i + a 39 i) w 42 (4 * t + e) ≤ 9
    rw [up2_eq, up2_eq]
    by_cases q : t = i
    · subst q
      rw [if_pos ⟨rfl, rfl⟩]
      refine ⟨by omega, fun e he => ?_⟩
      rw [up2_eq]
      by_cases q : e = a 39 t
      · rw [if_pos ⟨rfl, by omega⟩]; exact hw
      · rw [if_neg (fun w => q (by omega))]; exact (k37 t ht).2.2 e (by omega)
    · rw [if_neg (fun w => q w.2)]
      show a 39 t ≤ 4 ∧ ∀ e, e < a 39 t → up2 a 42 (4 * i + a 39 i) w 42 (4 * t + e) ≤ 9
      refine ⟨(k37 t ht).2.1, fun e he => ?_⟩
      have := (k37 t ht).2.1
      rw [up2_eq, if_neg (fun w => q (by omega))]
      exact (k37 t ht).2.2 e he
  · rw [up2_eq, if_neg (fun w => by omega)]; exact (pz.1 t h1 h2).2.1
  · have p := (pz.1 t h1 h2).2.2 e he
    show up2 a 40 _ _ 40 _ = 0 ∧ up2 a 41 _ _ 41 _ = 0 ∧ up2 a 42 _ _ 42 _ = 0
    rw [up2_eq, if_neg (fun w => by omega), up2_eq, if_neg (fun w => by omega), up2_eq, if_neg (fun w => by omega)]
    exact p
theorem J_clear {i sp : Nat} (j : JI s a rl) (hi : i < s 36) (hs : sp < a 39 i) : JI s (clrU a i sp (4 * i + (a 39 i - 1)) (a 39 i - 1)) rl := by
  obtain ⟨⟨c, k26, k28, k32, k37, k38, k43, k45⟩, wa, pz, pr, jr⟩ := j
  have i4 := (k37 i hi).2.1
  refine ⟨⟨c, k26, k28, k32, fun t ht => ⟨(k37 t ht).1, ?_⟩, k38, k43, k45⟩, wa, ⟨fun t h1 h2 => ⟨(pz.1 t h1 h2).1, ?_, fun e he => ?_⟩, pz.2⟩, pr, jr.cg rfl jr.2.2.2.2.2.2 (fun k j e => by unfold clrU; rw [if_neg (by omega), if_neg (by omega)]) jr.2.2.2.1 jr.2.2.2.2.1 jr.2.2.2.2.2.1⟩
  · show (if t = i then a 39 i - 1 else a 39 t) ≤ 4 ∧ ∀ e, e < (if t = i then a 39 i - 1 else a 39 t) → clrU a i sp (4 * i + (a 39 i - 1)) (a 39 i - 1) 42 (4 * t + e) ≤ 9
    have kt := k37 t ht
    by_cases q : t = i
    · subst q
      rw [if_pos rfl]
      refine ⟨by omega, fun e he => ?_⟩
      unfold clrU
      rw [if_neg (by omega)]
      split
      · have := kt.2.2 (e + 1) (by omega)
        rw [show 4 * t + e + 1 = 4 * t + (e + 1) by omega]; exact this
      · exact kt.2.2 e (by omega)
    · rw [if_neg q]
      refine ⟨kt.2.1, fun e he => ?_⟩
      unfold clrU
      rw [if_neg (by omega), if_neg (fun w => q (by omega))]
      exact kt.2.2 e he
  · show (if t = i then a 39 i - 1 else a 39 t) = 0
    rw [if_neg (by omega)]; exact (pz.1 t h1 h2).2.1
  · have p := (pz.1 t h1 h2).2.2 e he
    unfold clrU
    rw [if_neg (by omega), if_neg (by omega), if_neg (by omega), if_neg (by omega), if_neg (by omega), if_neg (by omega)]
    exact p
end JIS
