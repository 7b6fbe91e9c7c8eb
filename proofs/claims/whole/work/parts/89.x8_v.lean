/-! THE DESK: giving pages -/
def gsum : Nat → Nat → Nat
  | 0, _ => 0
  | k + 1, n => gs n + gsum k (n + 1)
theorem gsum_le : ∀ n : Fin 301, gsum (300 - n.val) n.val ≤ 1100 := by decide +kernel
theorem ASK.GV {h : gHp} {z V W : Nat → Nat} (ha : ASK h z V W) (h9 : V 9 + 1 < 2 ^ 31) : ASK (sI h 1 8 (z 0) (nI (V 9 + 1))) z (va_up V 9 (V 9 + 1)) W := by
  obtain ⟨⟨k0, r5, k5, n5⟩, ⟨v0, v1, v2, v3, v4, v6, v7, v9, v10, v11, v12⟩, b6, b10, b11, b12, bv, aw, bw⟩ := ha
  refine ⟨⟨k0, r5, k5, n5⟩, ?_, ?_, ?_, ?_, ?_, ?_, ?_, bw⟩
  · simp only [hI_sI, up3_eq, va_up_eq, Nat.reduceLeDiff, Nat.reduceLT, Nat.reduceEqDiff, Nat.one_ne_zero, Nat.zero_ne_one, Nat.reduceSub, Nat.reduceAdd, eq_self, true_or, or_true, or_false, false_or, true_and, and_true, false_and, and_false, and_self, or_self, forall_const, not_true_eq_false, not_false_eq_true, false_implies, implies_true, true_implies, ↓reduceIte, if_true, if_false, Nat.not_lt_zero, Nat.zero_le, Nat.le_refl, Nat.lt_irrefl, ne_eq, reduceCtorEq, Bool.false_eq_true, false_and, true_and]
    exact ⟨v0, v1, v2, v3, v4, v6, v7, v10, v11, v12⟩
  · simp [va_up_eq]; exact b6
  · simp [va_up_eq]; exact b10
  · simp [va_up_eq]; exact b11
  · simp [va_up_eq]; exact b12
  · intro k
    simp only [va_up_eq]
    split
    · omega
    · exact bv k
  · intro k hk
    simp [va_up_eq] at hk
    exact aw k hk
theorem ASK.i8 {h : gHp} {z V W : Nat → Nat} {x : Nat} {w : Int32} (ha : ASK h z V W) : ASK (sI h 8 4 x w) z V W := by
  have e : ∀ k b, hI (sI h 8 4 x w) 1 k b = hI h 1 k b := fun k b => by rw [hI_sI, up3_eq, if_neg (by omega)]
  simp only [ASK, hK_sI, hR_sI, hN_sI, hA_sI, e]
  exact ha
theorem TXT.iI {h : gHp} {z : Nat → Nat} {L n : Nat} {W : Nat → Nat} {S : Nat → Nat → Nat} {c k x : Nat} {w : Int32} (t : TXT h z L W n S) (hc : ¬ (c = 8 ∧ k = 5)) : TXT (sI h c k x w) z L W n S := by
  have e : ∀ b, hI (sI h c k x w) 8 5 b = hI h 8 5 b := fun b => by rw [hI_sI, up3_eq, if_neg (by omega)]
  simp only [TXT, hK_sI, hR_sI, hN_sI, hA_sI, e]
  exact t
theorem aFrom_id {rl : List (Nat × List (Nat × Nat))} {b n ps : Nat} : ∀ q i (o : gSt), ¬ (o.2.2 < n ∧ o.1 57 < 300) → aFrom rl b n ps q i o = o := by
  intro q
  induction q with
  | zero => intro i o _; rfl
  | succ q ih =>
    intro i o h
    have e : aSt rl b n ps i o = o := by
      unfold aSt
      rw [if_neg (fun c => ?_)]
      unfold aC at c
      simp at c
      exact h ⟨c.2.1, c.2.2.1⟩
    show aFrom rl b n ps q (i + 1) (aSt rl b n ps i o) = o
    rw [e]
    exact ih (i + 1) o h
section X8V
variable {B : gB} {h h' : gHp} {d E v mi : Nat} {Y : gYm} {ow : Nat → gTag} {rl : List (Nat × List (Nat × Nat))} {s : Nat → Nat} {a : Nat → Nat → Nat} {Q : Option Value → gHp → Prop}
set_option maxRecDepth 100000 in
set_option maxHeartbeats 1600000 in
theorem DS.cg {s' : Nat → Nat} {a' : Nat → Nat → Nat} (hd : DS E Y ow v rl h s a) (wp : ∀ g, g < s 31 → a 32 g < s 27 ∧ a 33 g < s 36) (hs : ∀ k, k = 2 ∨ 24 ≤ k → s' k = s k) (ha : ∀ k j, k = 1 ∨ (26 ≤ k ∧ k ≤ 61) → a' k j = a k j) : DS E Y ow v rl h s' a' := by
  obtain ⟨own, d0, df, dt, db, dl, dp, dg, dx, da, dh, du, dr⟩ := id hd
  have hf : FRO ow [] h h := FRO.rf h
  have eN : ∀ q, pgN s' a' q = pgN s a q := fun q => by unfold pgN; rw [hs 31 (by omega)]; exact cntN_cg (fun i _ => by rw [ha 32 i (by omega)])
  have eO : ∀ q, pgO s' a' q = pgO s a q := fun q => by funext j; unfold pgO; rw [hs 31 (by omega), nthN_cg (fun i _ => by rw [ha 32 i (by omega)])]
  have own2 : OWN Y ow h s' a' := fun r i k hv => own r i k (by
    have e27 := hs 27 (by omega)
    have e31 := hs 31 (by omega)
    have e36 := hs 36 (by omega)
    have e46 := hs 46 (by omega)
    have e57 := hs 57 (by omega)
    have e : vld s' a' r i k = vld s a r i k := by unfold vld; simp only [e27, e31, e36, e46, e57, eN]
    rw [← e]; exact hv)
  refine ⟨own2, D0.K own hf (by simp) ⟨rfl, rfl, rfl⟩ ⟨hs _ (by omega), hs _ (by omega), hs _ (by omega)⟩ (fun k _ => ha _ _ (by omega)) d0, DF.K own hf (by simp) rfl (hs _ (by omega)) (fun j => ha _ _ (by omega)) df, DT.K own hf (by simp) rfl (by rw [hs 44 (by omega)]; omega) (fun j => ha _ _ (by omega)) dt, db, ?_, fun q hq => ?_, fun g hg => ?_, fun u hu => ?_, fun b hb => ?_, fun i hi => ?_, DU.K own hf (by simp) rfl (hs _ (by omega)) (fun j => ha _ _ (by omega)) du, dr⟩
  · unfold DL
    rw [hs 27 (by omega), hs 31 (by omega), hs 36 (by omega), hs 46 (by omega), hs 57 (by omega)]
    exact dl
  · rw [hs 27 (by omega)] at hq
    exact DP.K own hf hq (by simp) ⟨fun _ => rfl, fun _ _ => rfl⟩ ⟨eN q, eO q, ha _ _ (by omega), ha _ _ (by omega), ha _ _ (by omega)⟩ (dp q hq)
  · rw [hs 31 (by omega)] at hg
    rw [ha 32 g (by omega), ha 33 g (by omega)]
    exact dg g hg
  · rw [hs 36 (by omega)] at hu
    exact DX.K own hf hu (by simp) (fun _ => rfl) ⟨ha _ _ (by omega), ha _ _ (by omega), ha _ _ (by omega), ha _ _ (by omega), fun _ _ => ha _ _ (by omega), fun _ _ => ha _ _ (by omega), fun _ _ => ha _ _ (by omega), fun _ _ => ha _ _ (by omega), fun _ _ => ha _ _ (by omega)⟩ (dx u hu)
  · rw [hs 46 (by omega)] at hb
    exact DA.K own hf hb (by simp) (fun _ => rfl) ⟨by rw [hs 24 (by omega)]; omega, by rw [hs 57 (by omega)]; exact cntN_cg (fun i _ => by rw [ha 58 i (by omega)])⟩ ⟨ha _ _ (by omega), ha _ _ (by omega), ha _ _ (by omega), ha _ _ (by omega), ha _ _ (by omega), ha _ _ (by omega), ha _ _ (by omega), fun _ _ => ha _ _ (by omega), fun _ _ => ha _ _ (by omega)⟩ (da b hb)
  · rw [hs 57 (by omega)] at hi
    exact DH.K own hf hi (by simp) (fun _ => rfl) ⟨ha _ _ (by omega), ha _ _ (by omega), ha _ _ (by omega), ha _ _ (by omega), fun _ _ => ha _ _ (by omega)⟩ (dh i hi)
theorem PZ_g {b g : Nat} (wp : WP s a) (pz : PZ s a) (hb : b < s 46) (hg : g < s 31) (h57 : s 57 < 300) : PZ (va_up s 57 (s 57 + 1)) (gvF s a rl b g) := by
  have w33 := (wp.2.2.2.1 g hg).2.1
  have := wp.1
  refine ⟨fun t h1 h2 => ⟨⟨(pz.1 t h1 h2).1.1, fun b' hb' => by
    have h1 : s 36 ≤ t := h1
    rw [gvF_56t h2 (by omega) (by omega)]
    exact (pz.1 t h1 h2).1.2 b' hb'⟩, (pz.1 t h1 h2).2⟩, pz.2.1, fun b' h1 h2 => ⟨(pz.2.2.1 b' h1 h2).1, fun t ht => ?_⟩, fun i hi => ?_, by simp [va_up_eq]; omega⟩
  · have h1 : s 46 ≤ b' := h1
    rw [gvF_56 (by omega) ht (by omega)]
    exact (pz.2.2.1 b' h1 h2).2 t ht
  · have hi : i < s 57 + 1 := by simpa [va_up_eq] using hi
    by_cases e : i = s 57
    · subst e
      have e58 : gvF s a rl b g 58 (s 57) = b := by simp [gvF, gvA, up2_eq]
      have e59 : gvF s a rl b g 59 (s 57) = g := by simp [gvF, gvA, up2_eq]
      rw [e58, e59]
      exact ⟨hb, hg⟩
    · rw [gvF_o e (by omega) (by omega), gvF_o e (by omega) (by omega)]
      exact pz.2.2.2.1 i (by omega)
end X8V
