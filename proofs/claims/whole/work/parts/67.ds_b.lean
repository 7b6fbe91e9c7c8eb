/-! THE COUPLING: the desk's parts -/
section SAMS
variable {h h' : gHp}
theorem TXT.M {z : Nat → Nat} {L n : Nat} {W : Nat → Nat} {S : Nat → Nat → Nat} (t : TXT h z L W n S) (s0 : SAM h h' (z 0)) (s1 : SAM h h' (z 1)) (s4 : SAM h h' (z 4)) (s5 : SAM h h' (z 5)) (s6 : SAM h h' (z 6)) : TXT h' z L W n S := by
  obtain ⟨⟨k0, r1, r4, r5, r6, k1, k4, k5, k6, n1, n4, n5, n6, i3⟩, hn, hL, aw, a4, a5, a6, bw, bs, b6⟩ := t
  exact ⟨⟨by rw [s0.1]; exact k0, by rw [s0.2.2.2.1]; exact r1, by rw [s0.2.2.2.1]; exact r4, by rw [s0.2.2.2.1]; exact r5, by rw [s0.2.2.2.1]; exact r6, by rw [s1.1]; exact k1, by rw [s4.1]; exact k4, by rw [s5.1]; exact k5, by rw [s6.1]; exact k6, by rw [s1.2.1]; exact n1, by rw [s4.2.1]; exact n4, by rw [s5.2.1]; exact n5, by rw [s6.2.1]; exact n6, by rw [s0.2.2.1]; exact i3⟩, hn, hL, fun k hk => by rw [s1.2.2.2.2.1]; exact aw k hk, fun i hi => by rw [s4.2.2.2.2.1]; exact a4 i hi, fun i hi => by rw [s5.2.2.2.2.1]; exact a5 i hi, fun i hi => by rw [s6.2.2.2.2.1]; exact a6 i hi, bw, bs, b6⟩
theorem ASK.M {z V W : Nat → Nat} (t : ASK h z V W) (s0 : SAM h h' (z 0)) (s5 : SAM h h' (z 5)) : ASK h' z V W := by
  obtain ⟨⟨k0, r5, k5, n5⟩, ⟨v0, v1, v2, v3, v4, v6, v7, v9, v10, v11, v12⟩, b6, b10, b11, b12, bv, aw, bw⟩ := t
  exact ⟨⟨by rw [s0.1]; exact k0, by rw [s0.2.2.2.1]; exact r5, by rw [s5.1]; exact k5, by rw [s5.2.1]; exact n5⟩, ⟨by rw [s0.2.2.1]; exact v0, by rw [s0.2.2.1]; exact v1, by rw [s0.2.2.1]; exact v2, by rw [s0.2.2.1]; exact v3, by rw [s0.2.2.1]; exact v4, by rw [s0.2.2.1]; exact v6, by rw [s0.2.2.1]; exact v7, by rw [s0.2.2.1]; exact v9, by rw [s0.2.2.1]; exact v10, by rw [s0.2.2.1]; exact v11, by rw [s0.2.2.1]; exact v12⟩, b6, b10, b11, b12, bv, fun k hk => by rw [s5.2.2.2.2.1]; exact aw k hk, bw⟩
theorem LST.M {E l e n ci : Nat} {f f' : Nat → Nat} (t : LST E h l e n ci f) (sl : SAM h h' l) (se : 0 < n → SAM h h' e) (hf : ∀ i, i < n → f' i = f i ∧ hK h' (f i) = hK h (f i)) : LST E h' l e n ci f' := by
  obtain ⟨k0, i2, hn, r0, r1, rf⟩ := t
  exact ⟨by rw [sl.1]; exact k0, by rw [sl.2.2.1]; exact i2, hn, fun q => by rw [sl.2.2.2.1]; exact r0 q, fun q => by rw [sl.2.2.2.1, (se (by omega)).1, (se (by omega)).2.1]; exact r1 q, fun i hi => by rw [(hf i hi).1, (hf i hi).2, (se (by omega)).2.2.2.2.2.2]; exact rf i hi⟩
theorem TAP.M {z : Nat → Nat} {n : Nat} {T T' : Nat → Nat} (t : TAP h z n T) (s0 : SAM h h' (z 0)) (s2 : hK h' (z 2) = hK h (z 2) ∧ hN h' (z 2) = hN h (z 2)) (s3 : hK h' (z 3) = hK h (z 3) ∧ hN h' (z 3) = hN h (z 3)) (s4 : SAM h h' (z 4)) (hT : T' = T) : TAP h' z n T' := by
  subst hT
  obtain ⟨⟨k0, r0, r2, r3, k4, n4, k2, n2, k3, n3, i1⟩, hn, aT, bT⟩ := t
  exact ⟨⟨by rw [s0.1]; exact k0, by rw [s0.2.2.2.1]; exact r0, by rw [s0.2.2.2.1]; exact r2, by rw [s0.2.2.2.1]; exact r3, by rw [s4.1]; exact k4, by rw [s4.2.1]; exact n4, by rw [s2.1]; exact k2, by rw [s2.2]; exact n2, by rw [s3.1]; exact k3, by rw [s3.2]; exact n3, by rw [s0.2.2.1]; exact i1⟩, hn, fun k hk => by rw [s4.2.2.2.2.1]; exact aT k hk, bT⟩
theorem RUO.M {z : Nat → Nat} {rl : List (Nat × List (Nat × Nat))} {pd : List (Nat × Nat)} (t : RUO h z rl pd) (s0 : SAM h h' (z 0)) (s1 : SAM h h' (z 1)) (s2 : SAM h h' (z 2)) (s3 : SAM h h' (z 3)) (s5 : hK h' (z 5) = hK h (z 5) ∧ hN h' (z 5) = hN h (z 5)) : RUO h' z rl pd := by
  obtain ⟨⟨k0, r1, r2, r3, r5, k1, k2, k3, k5, n1, n2, n3, n5, i0, i4⟩, hl, hc, ac, al⟩ := t
  exact ⟨⟨by rw [s0.1]; exact k0, by rw [s0.2.2.2.1]; exact r1, by rw [s0.2.2.2.1]; exact r2, by rw [s0.2.2.2.1]; exact r3, by rw [s0.2.2.2.1]; exact r5, by rw [s1.1]; exact k1, by rw [s2.1]; exact k2, by rw [s3.1]; exact k3, by rw [s5.1]; exact k5, by rw [s1.2.1]; exact n1, by rw [s2.2.1]; exact n2, by rw [s3.2.1]; exact n3, by rw [s5.2]; exact n5, by rw [s0.2.2.1]; exact i0, by rw [s0.2.2.1]; exact i4⟩, hl, hc, fun k hk => by rw [s3.2.2.2.2.1]; exact ac k hk, fun i hi => by rw [s1.2.2.2.2.1, s2.2.2.2.2.1]; exact al i hi⟩
end SAMS
/-- the desk itself; hm: who was heard -/
def D0 (Y : gYm) (v : Nat) (h : gHp) (s : Nat → Nat) (a : Nat → Nat → Nat) : Prop := hK h (Y 0 0 0) = 10 ∧ hI h 9 0 (Y 0 0 0) = nI (s 24) ∧ hI h 9 2 (Y 0 0 0) = nI (s 25) ∧ hI h 9 4 (Y 0 0 0) = nI (s 44) ∧ (hR h 9 1 (Y 0 0 0) = some (Y 0 1 0) ∧ hR h 9 3 (Y 0 0 0) = some (Y 0 3 0) ∧ hR h 9 5 (Y 0 0 0) = some (Y 0 5 0) ∧ hR h 9 6 (Y 0 0 0) = some (Y 0 6 0) ∧ hR h 9 7 (Y 0 0 0) = some (Y 0 7 0) ∧ hR h 9 8 (Y 0 0 0) = some (Y 0 8 0) ∧ hR h 9 9 (Y 0 0 0) = some (Y 0 9 0)) ∧ (hR h 9 11 (Y 0 0 0) = some (Y 7 0 0) ∧ hR h 9 12 (Y 0 0 0) = some (Y 8 v 0) ∧ hR h 9 13 (Y 0 0 0) = some (Y 8 (1 - v) 0)) ∧ ∃ m, m < 256 ∧ hI h 9 10 (Y 0 0 0) = nI m ∧ ∀ k, k < 8 → m / 2 ^ k % 2 = a 43 k
/-- folders, told words -/
def DF (Y : gYm) (h : gHp) (s : Nat → Nat) (a : Nat → Nat → Nat) : Prop := (hK h (Y 0 1 0) = 12 ∧ hN h (Y 0 1 0) = 20 ∧ hA h 12 (Y 0 1 0) 0 = -nI 1 ∧ ∀ g, 0 < g → g < s 25 → hA h 12 (Y 0 1 0) g = nI (a 26 g))
def DT (Y : gYm) (h : gHp) (s : Nat → Nat) (a : Nat → Nat → Nat) : Prop := (hK h (Y 0 3 0) = 12 ∧ hN h (Y 0 3 0) = 12 ∧ ∀ k, k < s 44 → hA h 12 (Y 0 3 0) k = nI (a 45 k))
/-- no rows of scratch: the marks stand in the papers (4.5) and texts (8.3) themselves -/
def DB (_ : gYm) (_ : gHp) : Prop := True
def DL (E : Nat) (Y : gYm) (h : gHp) (s : Nat → Nat) : Prop := LST E h (Y 0 5 0) (Y 1 5 0) (s 27) 4 (fun i => Y 2 i 0) ∧ LST E h (Y 0 6 0) (Y 1 6 0) (s 31) 3 (fun i => Y 3 i 0) ∧ LST E h (Y 0 7 0) (Y 1 7 0) (s 36) 8 (fun i => Y 4 i 0) ∧ LST E h (Y 0 8 0) (Y 1 8 0) (s 46) 1 (fun i => Y 5 i 0) ∧ LST E h (Y 0 9 0) (Y 1 9 0) (s 57) 2 (fun i => Y 6 i 0)
def DP (E : Nat) (Y : gYm) (h : gHp) (s : Nat → Nat) (a : Nat → Nat → Nat) : Prop := ∀ p, p < s 27 → hI h 4 0 (Y 2 p 0) = nI p ∧ PAP E h (Y 2 p) (Y 2 p 1) (pgN s a p) (a 29 p) (a 28 p) (a 30 p) (fun j => Y 3 (pgO s a p j) 0)
def DG (Y : gYm) (h : gHp) (s : Nat → Nat) (a : Nat → Nat → Nat) : Prop := ∀ g, g < s 31 → hK h (Y 3 g 0) = 4 ∧ hI h 3 0 (Y 3 g 0) = nI g ∧ hR h 3 1 (Y 3 g 0) = some (Y 2 (a 32 g) 0) ∧ hR h 3 2 (Y 3 g 0) = some (Y 4 (a 33 g) 0)
/-- spans of a text -/
def spS (a : Nat → Nat → Nat) (t e i : Nat) : Nat := if 4 ≤ i then 0 else if e = 4 then a 40 (4 * t + i) else if e = 5 then a 41 (4 * t + i) else if e = 6 then a 42 (4 * t + i) else 0
/-- for which asks a text was given -/
def GVF (h : gHp) (a : Nat → Nat → Nat) (t x : Nat) : Prop := ∃ m, GVN h x m ∧ ∀ b, b < 20 → m / 2 ^ b % 2 = a 56 (120 * b + t)
theorem GVF.cg {h h' : gHp} {a a' : Nat → Nat → Nat} {t x : Nat} (g : GVF h a t x) (hi : hI h' 8 4 x = hI h 8 4 x) (ha : ∀ b, b < 20 → a' 56 (120 * b + t) = a 56 (120 * b + t)) : GVF h' a' t x := by
  obtain ⟨m, ⟨g1, g2⟩, g3⟩ := g
  exact ⟨m, ⟨hi.trans g1, g2⟩, fun b hb => (g3 b hb).trans (ha b hb).symm⟩
def DX1 (Y : gYm) (h : gHp) (a : Nat → Nat → Nat) (t : Nat) : Prop := (hI h 8 0 (Y 4 t 0) = nI t ∧ GVF h a t (Y 4 t 0)) ∧ hI h 8 2 (Y 4 t 0) = nI (a 38 t) ∧ TXT h (Y 4 t) (a 34 (a 37 t)) (fun k => if k < 12 then a 35 (12 * a 37 t + k) else 0) (a 39 t) (spS a t)
def DX (Y : gYm) (h : gHp) (s : Nat → Nat) (a : Nat → Nat → Nat) : Prop := ∀ t, t < s 36 → DX1 Y h a t
/-- working days that are not off -/
def offN (a : Nat → Nat → Nat) (b j : Nat) : Nat → Nat
  | 0 => 0
  | k + 1 => offN a b j k + wkD a b (j + 1 + k)
/-- how the class's two numbers of days stand to the reference's rows -/
def DAY (s : Nat → Nat) (a : Nat → Nat → Nat) (b sd w : Nat) : Prop := a 52 b ≤ sd ∧ sd ≤ 4999 ∧ w ≤ 20 ∧ w = offN a b (a 52 b) (sd - a 52 b) ∧ (sd = a 52 b ∨ offN a b (a 52 b) (sd - a 52 b - 1) < 20) ∧ (w < 20 → ∀ d, sd < d → d < 5000 → a 55 (5000 * b + d) = 0) ∧ (sd = a 52 b ∨ sd < s 24) ∧ (∀ u, a 54 b = u + 1 → (w < 20 → u ≤ sd + 1) ∧ (sd < u ∨ sd = a 52 b))
def akN (s : Nat → Nat) (a : Nat → Nat → Nat) (b sd w k : Nat) : Nat := if k = 0 then b else if k = 1 then a 47 b else if k = 2 then a 48 b else if k = 3 then a 49 b else if k = 4 then a 52 b else if k = 6 then a 50 b else if k = 7 then a 53 b else if k = 9 then cntN (fun i => a 58 i == b) (s 57) else if k = 10 then (if a 54 b = 0 then 0 else 1) else if k = 11 then sd else if k = 12 then w else 0
def DA1 (Y : gYm) (h : gHp) (s : Nat → Nat) (a : Nat → Nat → Nat) (b : Nat) : Prop := ∃ sd w, ASK h (Y 5 b) (akN s a b sd w) (fun k => if k < 4 then a 51 (4 * b + k) else 0) ∧ DAY s a b sd w
def DA (Y : gYm) (h : gHp) (s : Nat → Nat) (a : Nat → Nat → Nat) : Prop := ∀ b, b < s 46 → DA1 Y h s a b
def DH1 (Y : gYm) (h : gHp) (a : Nat → Nat → Nat) (i : Nat) : Prop := hK h (Y 6 i 0) = 3 ∧ hI h 2 0 (Y 6 i 0) = nI (a 58 i) ∧ hI h 2 1 (Y 6 i 0) = nI (a 59 i) ∧ hI h 2 2 (Y 6 i 0) = nI (a 60 i) ∧ hI h 2 3 (Y 6 i 0) = nI (cntN (fun k => a 61 (12 * i + k) == 0) (a 34 (a 59 i))) ∧ hR h 2 4 (Y 6 i 0) = some (Y 6 i 4) ∧ hK h (Y 6 i 4) = 12 ∧ hN h (Y 6 i 4) = a 34 (a 59 i) ∧ ∀ k, k < a 34 (a 59 i) → hA h 12 (Y 6 i 4) k = nI (a 61 (12 * i + k))
def DH (Y : gYm) (h : gHp) (s : Nat → Nat) (a : Nat → Nat → Nat) : Prop := ∀ i, i < s 57 → DH1 Y h a i
def DU (Y : gYm) (h : gHp) (s : Nat → Nat) (a : Nat → Nat → Nat) : Prop := TAP h (Y 7 0) (s 2) (a 1)
def DR (Y : gYm) (v : Nat) (rl : List (Nat × List (Nat × Nat))) (h : gHp) : Prop := v ≤ 1 ∧ RUO h (Y 8 v) rl [] ∧ RUS h (Y 8 (1 - v))
def DS (E : Nat) (Y : gYm) (ow : Nat → gTag) (v : Nat) (rl : List (Nat × List (Nat × Nat))) (h : gHp) (s : Nat → Nat) (a : Nat → Nat → Nat) : Prop := OWN Y ow h s a ∧ D0 Y v h s a ∧ DF Y h s a ∧ DT Y h s a ∧ DB Y h ∧ DL E Y h s ∧ DP E Y h s a ∧ DG Y h s a ∧ DX Y h s a ∧ DA Y h s a ∧ DH Y h s a ∧ DU Y h s a ∧ DR Y v rl h
section DSK
variable {E v : Nat} {Y Y' : gYm} {ow : Nat → gTag} {T : List gTag} {h h' : gHp} {s s' : Nat → Nat} {a a' : Nat → Nat → Nat} {rl : List (Nat × List (Nat × Nat))}
theorem DF.K (own : OWN Y ow h s a) (hf : FRO ow T h h') (hT : ¬ (0, 1, 0) ∈ T) (hY : Y' 0 1 0 = Y 0 1 0) (hs : s' 25 = s 25) (ha : ∀ j, a' 26 j = a 26 j) (d : DF Y h s a) : DF Y' h' s' a' := by
  have m := own.sam hf (r := 0) (i := 1) (k := 0) (And.intro (by omega) (by omega)) hT
  unfold DF at d ⊢
  simp only [hY, hs, ha, m.1, m.2.1, m.2.2.2.2.1]
  exact d
theorem DT.K (own : OWN Y ow h s a) (hf : FRO ow T h h') (hT : ¬ (0, 3, 0) ∈ T) (hY : Y' 0 3 0 = Y 0 3 0) (hs : s' 44 ≤ s 44) (ha : ∀ j, a' 45 j = a 45 j) (d : DT Y h s a) : DT Y' h' s' a' := by
  have m := own.sam hf (r := 0) (i := 3) (k := 0) (And.intro (by omega) (by omega)) hT
  unfold DT at d ⊢
  simp only [hY, ha, m.1, m.2.1, m.2.2.2.2.1]
  exact ⟨d.1, d.2.1, fun k hk => d.2.2 k (by omega)⟩
theorem DB.K (own : OWN Y ow h s a) (hf : FRO ow T h h') (hY : Y' 0 = Y 0) (d : DB Y h) : DB Y' h' := by
  exact trivial
theorem D0.K (own : OWN Y ow h s a) (hf : FRO ow T h h') (hT : ¬ (0, 0, 0) ∈ T) (hY : Y' 0 = Y 0 ∧ Y' 7 = Y 7 ∧ Y' 8 = Y 8) (hs : s' 24 = s 24 ∧ s' 25 = s 25 ∧ s' 44 = s 44) (ha : ∀ k, k < 8 → a' 43 k = a 43 k) (d : D0 Y v h s a) : D0 Y' v h' s' a' := by
  have m := own.sam hf (r := 0) (i := 0) (k := 0) (And.intro (by omega) (by omega)) hT
  obtain ⟨d1, d2, d3, d4, d5, d6, q, q1, q2, q3⟩ := d
  unfold D0
  simp only [hY.1, hY.2.1, hY.2.2, hs.1, hs.2.1, hs.2.2, m.1, m.2.2.1, m.2.2.2.1]
  exact ⟨d1, d2, d3, d4, d5, d6, q, q1, q2, fun k hk => by rw [q3 k hk, ha k hk]⟩
/-- a list of the desk -/
theorem DL1.K {n ci r : Nat} {k : Nat} (own : OWN Y ow h s a) (hf : FRO ow T h h') (hk : k = 5 ∨ k = 6 ∨ k = 7 ∨ k = 8 ∨ k = 9) (h1 : ¬ (0, k, 0) ∈ T) (h2 : ¬ (1, k, 0) ∈ T) (hv : ∀ i, i < n → vld s a r i 0) (hv1 : 0 < n → vld s a 1 k 0) (hY0 : Y' 0 k 0 = Y 0 k 0) (hY1 : Y' 1 k 0 = Y 1 k 0) (hYr : ∀ i, i < n → Y' r i 0 = Y r i 0) (d : LST E h (Y 0 k 0) (Y 1 k 0) n ci (fun i => Y r i 0)) : LST E h' (Y' 0 k 0) (Y' 1 k 0) n ci (fun i => Y' r i 0) := by
  rw [hY0, hY1]
  exact d.M (own.sam hf (And.intro (by omega) (by omega)) h1) (fun hn => own.sam hf (hv1 hn) h2) (fun i hi => ⟨hYr i hi, (own.knd hf (hv i hi)).1⟩)
theorem DG.K (own : OWN Y ow h s a) (wp : WP s a) (hf : FRO ow T h h') (hT : ∀ i k, ¬ (3, i, k) ∈ T) (hY : (∀ i, i < s 31 → Y' 3 i 0 = Y 3 i 0) ∧ (∀ i, i < s 27 → Y' 2 i 0 = Y 2 i 0) ∧ ∀ i, i < s 36 → Y' 4 i 0 = Y 4 i 0) (hs : s' 31 = s 31) (ha : ∀ i, i < s 31 → a' 32 i = a 32 i ∧ a' 33 i = a 33 i) (d : DG Y h s a) : DG Y' h' s' a' := by
  intro g hg
  rw [hs] at hg
  have m := own.sam hf (r := 3) (i := g) (k := 0) (And.intro (by omega) (by omega)) (hT _ _)
  have w := wp.2.2.2.1 g hg
  rw [hY.1 g hg, (ha g hg).1, (ha g hg).2, hY.2.1 _ w.1, hY.2.2 _ w.2.1, m.1, m.2.2.1, m.2.2.2.1, m.2.2.2.1]
  exact d g hg
theorem DX.K (own : OWN Y ow h s a) (hf : FRO ow T h h') {t : Nat} (ht : t < s 36) (hT : ∀ k, ¬ (4, t, k) ∈ T) (hY : ∀ k, Y' 4 t k = Y 4 t k) (ha : a' 37 t = a 37 t ∧ a' 38 t = a 38 t ∧ a' 39 t = a 39 t ∧ a' 34 (a 37 t) = a 34 (a 37 t) ∧ (∀ j, j < 12 → a' 35 (12 * a 37 t + j) = a 35 (12 * a 37 t + j)) ∧ (∀ j, j < 4 → a' 40 (4 * t + j) = a 40 (4 * t + j)) ∧ (∀ j, j < 4 → a' 41 (4 * t + j) = a 41 (4 * t + j)) ∧ (∀ j, j < 4 → a' 42 (4 * t + j) = a 42 (4 * t + j)) ∧ ∀ b, b < 20 → a' 56 (120 * b + t) = a 56 (120 * b + t)) (d : DX1 Y h a t) : DX1 Y' h' a' t := by
  have m := fun k (hk : k = 0 ∨ k = 1 ∨ k = 4 ∨ k = 5 ∨ k = 6) => own.sam hf (r := 4) (i := t) (k := k) (And.intro (by omega) (by omega)) (hT _)
  obtain ⟨⟨d1, gm, ⟨g1, g2⟩, g3⟩, d2, d3⟩ := d
  have e1 : Y' 4 t = Y 4 t := funext hY
  have e2 : spS a' t = spS a t := by
    funext e i
    unfold spS
    by_cases q : 4 ≤ i
    · rw [if_pos q, if_pos q]
    · rw [if_neg q, if_neg q, ha.2.2.2.2.2.1 i (by omega), ha.2.2.2.2.2.2.1 i (by omega), ha.2.2.2.2.2.2.2.1 i (by omega)]
  have e3 : (fun k => if k < 12 then a' 35 (12 * a 37 t + k) else 0) = (fun k => if k < 12 then a 35 (12 * a 37 t + k) else 0) := by
    funext k
    split
    · rename_i q; exact ha.2.2.2.2.1 k q
    · rfl
  unfold DX1
  rw [e1, e2, ha.1, ha.2.1, ha.2.2.1, ha.2.2.2.1, (m 0 (by omega)).2.2.1, (m 0 (by omega)).2.2.1, e3]
  exact ⟨⟨d1, gm, ⟨by rw [(m 0 (by omega)).2.2.1]; exact g1, g2⟩, fun b hb => by rw [ha.2.2.2.2.2.2.2.2 b hb]; exact g3 b hb⟩, d2, d3.M (m 0 (by omega)) (m 1 (by omega)) (m 4 (by omega)) (m 5 (by omega)) (m 6 (by omega))⟩
theorem DA.K (own : OWN Y ow h s a) (hf : FRO ow T h h') {b : Nat} (hb : b < s 46) (hT : ∀ k, ¬ (5, b, k) ∈ T) (hY : ∀ k, Y' 5 b k = Y 5 b k) (hs : s 24 ≤ s' 24 ∧ cntN (fun i => a' 58 i == b) (s' 57) = cntN (fun i => a 58 i == b) (s 57)) (ha : a' 47 b = a 47 b ∧ a' 48 b = a 48 b ∧ a' 49 b = a 49 b ∧ a' 50 b = a 50 b ∧ a' 52 b = a 52 b ∧ a' 53 b = a 53 b ∧ a' 54 b = a 54 b ∧ (∀ j, j < 4 → a' 51 (4 * b + j) = a 51 (4 * b + j)) ∧ ∀ j, j < 5000 → a' 55 (5000 * b + j) = a 55 (5000 * b + j)) (d : DA1 Y h s a b) : DA1 Y' h' s' a' b := by
  have m := fun k (hk : k = 0 ∨ k = 5) => own.sam hf (r := 5) (i := b) (k := k) (And.intro (by omega) (by omega)) (hT _)
  obtain ⟨sd, w, d1, d2⟩ := d
  obtain ⟨h47, h48, h49, h50, h52, h53, h54, h51, h55⟩ := ha
  have e1 : Y' 5 b = Y 5 b := funext hY
  have e2 : akN s' a' b sd w = akN s a b sd w := by funext k; simp only [akN, h47, h48, h49, h50, h52, h53, h54, hs.2]
  have eo : ∀ k, a 52 b + k ≤ 4999 → offN a' b (a 52 b) k = offN a b (a 52 b) k := by
    intro k
    induction k with
    | zero => intro _; rfl
    | succ k ih =>
      intro hk
      unfold offN
      rw [ih (by omega)]
      unfold wkD
      rw [h55 _ (by omega)]
  refine ⟨sd, w, ?_, ?_⟩
  · have e4 : (fun k => if k < 4 then a' 51 (4 * b + k) else 0) = (fun k => if k < 4 then a 51 (4 * b + k) else 0) := by
      funext k
      split
      · rename_i q; exact h51 k q
      · rfl
    rw [e1, e2, e4]
    exact d1.M (m 0 (by omega)) (m 5 (by omega))
  · obtain ⟨c1, c2, c3, c4, c5, c6, c7, c8⟩ := d2
    unfold DAY
    rw [h52, h54, eo _ (by omega), eo _ (by omega)]
    exact ⟨c1, c2, c3, c4, c5, fun hw d h1 h2 => by rw [h55 d h2]; exact c6 hw d h1 h2, by omega, c8⟩
theorem DH.K (own : OWN Y ow h s a) (hf : FRO ow T h h') {i : Nat} (hi : i < s 57) (hT : ∀ k, ¬ (6, i, k) ∈ T) (hY : ∀ k, Y' 6 i k = Y 6 i k) (ha : a' 58 i = a 58 i ∧ a' 59 i = a 59 i ∧ a' 60 i = a 60 i ∧ a' 34 (a 59 i) = a 34 (a 59 i) ∧ ∀ k, k < a 34 (a 59 i) → a' 61 (12 * i + k) = a 61 (12 * i + k)) (d : DH1 Y h a i) : DH1 Y' h' a' i := by
  have m0 := own.sam hf (r := 6) (i := i) (k := 0) (And.intro (by omega) (by omega)) (hT _)
  have m4 := own.sam hf (r := 6) (i := i) (k := 4) (And.intro (by omega) (by omega)) (hT _)
  obtain ⟨d1, d2, d3, d4, d5, d6, d7, d8, d9⟩ := d
  have ec : cntN (fun k => a' 61 (12 * i + k) == 0) (a 34 (a 59 i)) = cntN (fun k => a 61 (12 * i + k) == 0) (a 34 (a 59 i)) := cntN_cg (fun k hk => by rw [ha.2.2.2.2 k hk])
  unfold DH1
  rw [hY, hY, ha.1, ha.2.1, ha.2.2.1, ha.2.2.2.1, ec, m0.1, m0.2.2.1, m0.2.2.1, m0.2.2.1, m0.2.2.1, m0.2.2.2.1, m4.1, m4.2.1, m4.2.2.2.2.1]
  exact ⟨d1, d2, d3, d4, d5, d6, d7, d8, fun k hk => by rw [ha.2.2.2.2 k hk]; exact d9 k hk⟩
theorem DU.K (own : OWN Y ow h s a) (hf : FRO ow T h h') (hT : ¬ (7, 0, 0) ∈ T ∧ ¬ (7, 0, 4) ∈ T) (hY : Y' 7 = Y 7) (hs : s' 2 = s 2) (ha : ∀ j, a' 1 j = a 1 j) (d : DU Y h s a) : DU Y' h' s' a' := by
  unfold DU
  rw [hY, hs]
  exact d.M (own.sam hf (And.intro (by omega) (by omega)) hT.1) (own.knd hf (And.intro (by omega) (by omega))) (own.knd hf (And.intro (by omega) (by omega))) (own.sam hf (And.intro (by omega) (by omega)) hT.2) (funext ha)
theorem RU.K (own : OWN Y ow h s a) (hf : FRO ow T h h') {q : Nat} {pd : List (Nat × Nat)} (hq : q ≤ 1) (hT : ∀ k, k ≠ 5 → ¬ (8, q, k) ∈ T) (hY : Y' 8 = Y 8) (d : RUO h (Y 8 q) rl pd) : RUO h' (Y' 8 q) rl pd := by
  rw [hY]
  exact d.M (own.sam hf (And.intro (by omega) (by omega)) (hT _ (by omega))) (own.sam hf (And.intro (by omega) (by omega)) (hT _ (by omega))) (own.sam hf (And.intro (by omega) (by omega)) (hT _ (by omega))) (own.sam hf (And.intro (by omega) (by omega)) (hT _ (by omega))) (own.knd hf (And.intro (by omega) (by omega)))
theorem DR.K (own : OWN Y ow h s a) (hf : FRO ow T h h') (hT : ∀ q k, k ≠ 5 → ¬ (8, q, k) ∈ T) (hY : Y' 8 = Y 8) (d : DR Y v rl h) : DR Y' v rl h' := by
  obtain ⟨d1, d2, d3⟩ := d
  refine ⟨d1, RU.K own hf d1 (fun k hk => hT _ k hk) hY d2, ?_⟩
  rw [hY]
  obtain ⟨k0, r1, r2, r3, r5, k1, k2, k3, k5, n1, n2, n3, n5⟩ := d3
  have m0 := own.sam hf (r := 8) (i := 1 - v) (k := 0) (And.intro (by omega) (by omega)) (hT _ _ (by omega))
  have m1 := own.knd hf (r := 8) (i := 1 - v) (k := 1) (And.intro (by omega) (by omega))
  have m2 := own.knd hf (r := 8) (i := 1 - v) (k := 2) (And.intro (by omega) (by omega))
  have m3 := own.knd hf (r := 8) (i := 1 - v) (k := 3) (And.intro (by omega) (by omega))
  have m5 := own.knd hf (r := 8) (i := 1 - v) (k := 5) (And.intro (by omega) (by omega))
  exact ⟨by rw [m0.1]; exact k0, by rw [m0.2.2.2.1]; exact r1, by rw [m0.2.2.2.1]; exact r2, by rw [m0.2.2.2.1]; exact r3, by rw [m0.2.2.2.1]; exact r5, by rw [m1.1]; exact k1, by rw [m2.1]; exact k2, by rw [m3.1]; exact k3, by rw [m5.1]; exact k5, by rw [m1.2]; exact n1, by rw [m2.2]; exact n2, by rw [m3.2]; exact n3, by rw [m5.2]; exact n5⟩
/-- one paper -/
theorem DP.K (own : OWN Y ow h s a) (hf : FRO ow T h h') {p : Nat} (hp : p < s 27) (hT : ∀ k, ¬ (2, p, k) ∈ T) (hY : (∀ k, Y' 2 p k = Y 2 p k) ∧ ∀ i, i < s 31 → Y' 3 i 0 = Y 3 i 0) (ha : pgN s' a' p = pgN s a p ∧ pgO s' a' p = pgO s a p ∧ a' 28 p = a 28 p ∧ a' 29 p = a 29 p ∧ a' 30 p = a 30 p) (d : hI h 4 0 (Y 2 p 0) = nI p ∧ PAP E h (Y 2 p) (Y 2 p 1) (pgN s a p) (a 29 p) (a 28 p) (a 30 p) (fun j => Y 3 (pgO s a p j) 0)) : hI h' 4 0 (Y' 2 p 0) = nI p ∧ PAP E h' (Y' 2 p) (Y' 2 p 1) (pgN s' a' p) (a' 29 p) (a' 28 p) (a' 30 p) (fun j => Y' 3 (pgO s' a' p j) 0) := by
  have m0 := own.sam hf (r := 2) (i := p) (k := 0) (And.intro (by omega) (by omega)) (hT _)
  have m3 := own.sam hf (r := 2) (i := p) (k := 3) (And.intro (by omega) (by omega)) (hT _)
  obtain ⟨d1, ⟨k0, i1, i2, r3, i4⟩, dl, dr⟩ := d
  have e1 : Y' 2 p = Y 2 p := funext hY.1
  rw [e1, ha.1, ha.2.1, ha.2.2.1, ha.2.2.2.1, ha.2.2.2.2]
  refine ⟨by rw [m0.2.2.1]; exact d1, ⟨by rw [m0.1]; exact k0, by rw [m0.2.2.1]; exact i1, by rw [m0.2.2.1]; exact i2, by rw [m0.2.2.2.1]; exact r3, by rw [m0.2.2.1]; exact i4⟩, ?_, dr⟩
  refine dl.M m3 (fun hn => own.sam hf (And.intro (by omega) (by omega)) (hT _)) (fun i hi => ?_)
  have := (nthN_lt (fun g => a 32 g == p) (s 31) i hi).1
  exact ⟨hY.2 _ this, (own.knd hf (r := 3) (i := pgO s a p i) (k := 0) (And.intro (by unfold pgO; omega) (by omega))).1⟩
end DSK
