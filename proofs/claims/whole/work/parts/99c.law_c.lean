/-! THE LAW: the state after ask and answer, and at the start -/
section JIU
variable {s s' : Nat → Nat} {a a' : Nat → Nat → Nat} {rl : List (Nat × List (Nat × Nat))}
theorem akE_k {f l k e j : Nat} (he : e < 47 ∨ 54 < e) : akE s a f l k e j = a e j := by
  unfold akE akV akU
  simp only [up2_eq]
  repeat rw [if_neg (by omega)]
theorem akE_n51 {f l k q : Nat} (hq : q < s 44) : akE s a f l k 51 (4 * s 46 + q) = a 45 q := by
  simp [akE, akV, akU, up2_eq, hq]
theorem akE_n {f l k : Nat} : akE s a f l k 47 (s 46) = f ∧ akE s a f l k 48 (s 46) = l ∧ akE s a f l k 49 (s 46) = k ∧ akE s a f l k 50 (s 46) = s 44 ∧ akE s a f l k 52 (s 46) = s 24 ∧ akE s a f l k 53 (s 46) ≤ s 46 ∧ akE s a f l k 54 (s 46) = 0 := by
  refine ⟨?_, ?_, ?_, ?_, ?_, ?_, ?_⟩
  · simp [akE, akV, akU, up2_eq]
  · simp [akE, akV, akU, up2_eq]
  · simp [akE, akV, akU, up2_eq]
  · simp [akE, akV, akU, up2_eq]
  · simp [akE, akV, akU, up2_eq]
  · unfold akE
    rw [up2_eq, if_pos ⟨rfl, rfl⟩]
    exact rpV_le _ _ _ (Nat.le_refl _)
  · simp [akE, akV, akU, up2_eq]
theorem J_ask {i u w : Nat} (J : JI s a rl) (hi : i < s 25) (huw : u ≤ w) (hw : w ≤ 4999) (h44 : s 44 ≤ 4) (h46 : s 46 < 20) : JI (va_up (va_up s 44 0) 46 (s 46 + 1)) (akE s a i u w) rl := by
  obtain ⟨wp, wa, pz, pr, jr⟩ := J
  have wp0 : WP (va_up (va_up s 44 0) 46 (s 46 + 1)) (akE s a i u w) := by
    have := WP_0 wp
    exact this
  refine ⟨wp0, ⟨h46, fun b hb => ?_⟩, ⟨pz.1, pz.2.1, fun b h1 h2 => pz.2.2.1 b (Nat.le_of_succ_le h1) h2, fun i hi => ⟨Nat.lt_succ_of_lt (pz.2.2.2.1 i hi).1, (pz.2.2.2.1 i hi).2⟩, pz.2.2.2.2⟩, pr, jr.cg rfl jr.2.2.2.2.2.2 (fun k j e => akE_k (by omega)) jr.2.2.2.1 jr.2.2.2.2.1 jr.2.2.2.2.2.1⟩
  have hb' : b < s 46 + 1 := hb
  by_cases q : b = s 46
  · subst q
    obtain ⟨e47, e48, e49, e50, e52, e53, e54⟩ := akE_n (s := s) (a := a) (f := i) (l := u) (k := w)
    rw [e47, e48, e49, e50, e52, e54]
    exact ⟨hi, huw, hw, h44, fun k hk => by rw [akE_n51 hk]; exact wp.2.2.2.2.2.2.2 k hk, Nat.le_refl _, e53, Nat.zero_le _⟩
  · obtain ⟨w1, w2, w3, w4, w5, w6, w7, w8⟩ := wa.2 b (by omega)
    rw [akE_o q (by omega), akE_o q (by omega), akE_o q (by omega), akE_o q (by omega), akE_o q (by omega), akE_o q (by omega), akE_o q (by omega)]
    exact ⟨w1, w2, w3, w4, fun k hk => by rw [akE_51 q h44 (by omega)]; exact w5 k hk, w6, w7, w8⟩
theorem aSt_k (rl : List (Nat × List (Nat × Nat))) (b n ps g : Nat) (o : gSt) : (∀ k, k < 57 → (aSt rl b n ps g o).1 k = o.1 k) ∧ ∀ k j, k < 56 → (aSt rl b n ps g o).2.1 k j = o.2.1 k j := by
  unfold aSt
  split
  · refine ⟨fun k hk => by show va_up o.1 57 _ k = _; rw [va_up_eq, if_neg (by omega)], fun k j hk => ?_⟩
    show gvF o.1 o.2.1 rl b g k j = _
    unfold gvF gvA
    rw [up2_eq]
    repeat rw [if_neg (by omega)]
  · exact ⟨fun _ _ => rfl, fun _ _ _ => rfl⟩
theorem aFrom_k (rl : List (Nat × List (Nat × Nat))) (b n ps : Nat) : ∀ q g (o : gSt), (∀ k, k < 57 → (aFrom rl b n ps q g o).1 k = o.1 k) ∧ ∀ k j, k < 56 → (aFrom rl b n ps q g o).2.1 k j = o.2.1 k j := by
  intro q
  induction q with
  | zero => intro g o; exact ⟨fun _ _ => rfl, fun _ _ _ => rfl⟩
  | succ q ih =>
    intro g o
    have h1 := aSt_k rl b n ps g o
    have h2 := ih (g + 1) (aSt rl b n ps g o)
    exact ⟨fun k hk => (h2.1 k hk).trans (h1.1 k hk), fun k j hk => (h2.2 k j hk).trans (h1.2 k j hk)⟩
theorem J_answer {i n N G0 m p31 p46 : Nat} {o : gSt} (J : JI s a rl) (e : o = aFrom rl i n 1 (s 31) 0 (aFrom rl i n 0 (s 31) 0 (s, ffU s a rl i (s 27), 0))) (G : GIV o.1 o.2.1 i N G0 m) (A : AI rl n p31 p46 o) : JI o.1 o.2.1 rl := by
  obtain ⟨wp, wa, pz, pr, jr⟩ := J
  have k1 := aFrom_k rl i n 0 (s 31) 0 (s, ffU s a rl i (s 27), 0)
  have k2 := aFrom_k rl i n 1 (s 31) 0 (aFrom rl i n 0 (s 31) 0 (s, ffU s a rl i (s 27), 0))
  rw [← e] at k2
  have ks : ∀ k, k < 57 → o.1 k = s k := fun k hk => (k2.1 k hk).trans (k1.1 k hk)
  have ka : ∀ k j, k < 56 → o.2.1 k j = a k j := fun k j hk => ((k2.2 k j hk).trans (k1.2 k j hk)).trans (by show ffU s a rl i (s 27) k j = a k j; unfold ffU; rw [if_neg (by omega)])
  exact ⟨G.1, G.2.1, G.2.2.1, G.2.2.2.1, jr.cg (ks 15 (by omega)) (by rw [ks 2 (by omega)]; exact jr.2.2.2.2.2.2) (fun k j e => ka k j (by omega)) (fun j => by rw [ka 55 j (by omega)]; exact jr.2.2.2.1 j) A.2.2.2.2.2.2.1 A.2.2.2.2.2.2.2.1⟩
end JIU
theorem J_init : JI sIi aI [] := by
  have s0 : ∀ k, k ≠ 25 → sIi k = 0 := fun k hk => by rw [sIi, if_neg hk]
  have a0 : ∀ k j, k ≠ 53 → k ≠ 54 → k ≠ 9 → aI k j = 0 := fun k j h1 h2 h3 => by rw [aI, if_neg (by omega), if_neg h3]
  have z : ∀ k, k ≠ 25 → ∀ i, ¬ i < sIi k := fun k hk i h => by rw [s0 k hk] at h; omega
  refine ⟨⟨⟨by decide, by decide, by decide, by decide, by decide, by decide, by decide⟩, fun g h1 h2 => ?_, fun p hp => absurd hp (z 27 (by omega) p), fun p hp => absurd hp (z 31 (by omega) p), fun p hp => absurd hp (z 36 (by omega) p), fun j => by rw [a0 38 j (by omega) (by omega) (by omega)]; omega, fun j => by rw [a0 43 j (by omega) (by omega) (by omega)]; omega, fun p hp => absurd hp (z 44 (by omega) p)⟩, ⟨by decide, fun p hp => absurd hp (z 46 (by omega) p)⟩, ⟨fun t _ _ => ⟨⟨rfl, fun _ _ => rfl⟩, rfl, fun _ _ => ⟨rfl, rfl, rfl⟩⟩, fun _ _ _ => rfl, fun _ _ _ => ⟨fun _ _ => rfl, fun _ _ => rfl⟩, fun p hp => absurd hp (z 57 (by omega) p), by decide⟩, fun p hp => absurd hp (z 31 (by omega) p), ⟨⟨by decide, rfl, by decide, fun i l e => by simp at e⟩, fun i l e => by simp at e, fun l e => absurd e List.not_mem_nil⟩, ⟨rfl, rfl, rfl, rfl, rfl, rfl, rfl, rfl⟩, fun j => by rw [a0 6 j (by omega) (by omega) (by omega)]; omega, fun j => by rw [a0 55 j (by omega) (by omega) (by omega)]; omega, fun j => by rw [a0 56 j (by omega) (by omega) (by omega)]; omega, fun j => by rw [a0 62 j (by omega) (by omega) (by omega)]; omega, by decide⟩
  have h2' : g < 1 := h2
  omega
section DSRP
variable {E v : Nat} {Y : gYm} {ow : Nat → gTag} {rl : List (Nat × List (Nat × Nat))} {h h' : gHp} {s : Nat → Nat} {a : Nat → Nat → Nat}
set_option maxRecDepth 100000 in
set_option maxHeartbeats 1600000 in
/-- the desk doesn't see the reference's cells -/
theorem DS.rpK (hd : DS E Y ow v rl h s a) (p : RP h h') : DS E Y ow v rl h' s a := by
  obtain ⟨p1, p2, p3, p4, p5, p6, p7⟩ := p
  have i0 : ∀ k b, hI h' 0 k b = hI h 0 k b := fun k b => p5 0 k b (by omega)
  have i1 : ∀ k b, hI h' 1 k b = hI h 1 k b := fun k b => p5 1 k b (by omega)
  have i2 : ∀ k b, hI h' 2 k b = hI h 2 k b := fun k b => p5 2 k b (by omega)
  have i3 : ∀ k b, hI h' 3 k b = hI h 3 k b := fun k b => p5 3 k b (by omega)
  have i4 : ∀ k b, hI h' 4 k b = hI h 4 k b := fun k b => p5 4 k b (by omega)
  have i6 : ∀ k b, hI h' 6 k b = hI h 6 k b := fun k b => p5 6 k b (by omega)
  have i7 : ∀ k b, hI h' 7 k b = hI h 7 k b := fun k b => p5 7 k b (by omega)
  have i8 : ∀ k b, hI h' 8 k b = hI h 8 k b := fun k b => p5 8 k b (by omega)
  have i9 : ∀ k b, hI h' 9 k b = hI h 9 k b := fun k b => p5 9 k b (by omega)
  have a12 : hA h' 12 = hA h 12 := p6 12 (by omega) (by omega)
  have a14 : hA h' 14 = hA h 14 := p6 14 (by omega) (by omega)
  have a15 : hA h' 15 = hA h 15 := p6 15 (by omega) (by omega)
  simp only [DS, OWN, D0, DF, DT, DB, DL, DP, DG, DX, DX1, GVF, GVN, DA, DA1, DH, DH1, DU, DR, TXT, ASK, LST, TAP, RUO, RUS, PAP, p1, p2, p3, p4, i0, i1, i2, i3, i4, i6, i7, i8, i9, a12, a14, a15]
  exact hd
theorem RS.sm {x : Nat} {xa : Nat → Nat} (hr : RS x xa h s a) (h1 : SAM h h' x) (h2 : ∀ k, gIsR 10 k = true → SAM h h' (xa k)) : RS x xa h' s a := by
  obtain ⟨⟨w1, w2, w3, w4, w5⟩, r1, r2, r3, r4, r5, r6⟩ := hr
  refine ⟨⟨by rw [h1.1]; exact w1, fun k q => by rw [h1.2.2.2.1]; exact w2 k q, fun k q => by rw [(h2 k q).1]; exact w3 k q, fun k q => by rw [(h2 k q).2.1]; exact w4 k q, w5⟩, fun k q => by rw [h1.2.2.1]; exact r1 k q, fun k j q => ?_, fun k j q => ?_, fun k j q => ?_, fun k j q => ?_, r6⟩
  · rw [(h2 k (rU_K (by omega)).1).2.2.2.2.1]; exact r2 k j q
  · rw [(h2 k (rU_K (by omega)).1).2.2.2.2.1]; exact r3 k j q
  · rw [(h2 k (rU_K (by omega)).1).2.2.2.2.1]; exact r4 k j q
  · rw [(h2 k (rU_K (by omega)).1).2.2.2.2.2.1]; exact r5 k j q
end DSRP
