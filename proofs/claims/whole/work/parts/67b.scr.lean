/-! THE COUPLING: the marks in papers (4.5) and texts (8.3) say nothing between two calls -/
def SMS (h h' : gHp) (b : Nat) : Prop := hK h' b = hK h b ∧ hN h' b = hN h b ∧ (∀ c k, ¬ (c = 4 ∧ k = 5) → ¬ (c = 8 ∧ k = 3) → hI h' c k b = hI h c k b) ∧ (∀ c k, hR h' c k b = hR h c k b) ∧ (∀ t, hA h' t b = hA h t b) ∧ (∀ t, hJ h' t b = hJ h t b) ∧ hO h' b = hO h b
theorem SAM.sms {h h' : gHp} {b : Nat} (p : SAM h h' b) : SMS h h' b := ⟨p.1, p.2.1, fun c k _ _ => p.2.2.1 c k, p.2.2.2.1, p.2.2.2.2.1, p.2.2.2.2.2.1, p.2.2.2.2.2.2⟩
theorem SMS.tr {h h1 h2 : gHp} {b : Nat} (p : SMS h h1 b) (q : SMS h1 h2 b) : SMS h h2 b := ⟨q.1.trans p.1, q.2.1.trans p.2.1, fun c k n1 n2 => (q.2.2.1 c k n1 n2).trans (p.2.2.1 c k n1 n2), fun c k => (q.2.2.2.1 c k).trans (p.2.2.2.1 c k), fun t => (q.2.2.2.2.1 t).trans (p.2.2.2.2.1 t), fun t => (q.2.2.2.2.2.1 t).trans (p.2.2.2.2.2.1 t), q.2.2.2.2.2.2.trans p.2.2.2.2.2.2⟩
/-- old cells whose tag is not in T are as before, but for marks of papers and texts -/
def FRS (ow : Nat → gTag) (T : List gTag) (h h' : gHp) : Prop := (∀ b, hK h b ≠ 0 → hK h' b = hK h b ∧ hN h' b = hN h b) ∧ ∀ b, hK h b ≠ 0 → ¬ ow b ∈ T → SMS h h' b ∧ ((ow b).1 ≠ 2 → (ow b).1 ≠ 4 → SAM h h' b)
/-- nothing but marks changed -/
def SCR (h h' : gHp) : Prop := hK h' = hK h ∧ hN h' = hN h ∧ (∀ c k b, ¬ (c = 4 ∧ k = 5) → ¬ (c = 8 ∧ k = 3) → hI h' c k b = hI h c k b) ∧ hR h' = hR h ∧ hA h' = hA h ∧ hJ h' = hJ h ∧ hO h' = hO h
section FRSS
variable {ow : Nat → gTag} {T U : List gTag} {h h1 h2 : gHp}
theorem FRO.frs (p : FRO ow T h h1) : FRS ow T h h1 := ⟨p.1, fun b hb hn => ⟨(p.2 b hb hn).sms, fun _ _ => p.2 b hb hn⟩⟩
theorem FRS.rf (h : gHp) : FRS ow T h h := (FRO.rf h).frs
theorem FRS.up (p : FRS ow T h h1) (hT : ∀ q, q ∈ T → q ∈ U) : FRS ow U h h1 := ⟨p.1, fun b hb hn => p.2 b hb (fun e => hn (hT _ e))⟩
theorem FRS.t2 (p : FRS ow T h h1) (q : FRS ow T h1 h2) : FRS ow T h h2 := by
  have k : ∀ b, hK h b ≠ 0 → hK h1 b ≠ 0 := fun b hb => by rw [(p.1 b hb).1]; exact hb
  exact ⟨fun b hb => ⟨(q.1 b (k b hb)).1.trans (p.1 b hb).1, (q.1 b (k b hb)).2.trans (p.1 b hb).2⟩, fun b hb hn => ⟨(p.2 b hb hn).1.tr (q.2 b (k b hb) hn).1, fun n2 n4 => ((p.2 b hb hn).2 n2 n4).tr ((q.2 b (k b hb) hn).2 n2 n4)⟩⟩
/-- a mark of a paper -/
theorem FRS.mP {x : Nat} {w : Int32} (hx : (ow x).1 = 2) : FRS ow T h (sI h 4 5 x w) := ⟨fun _ _ => ⟨rfl, rfl⟩, fun b _ _ => ⟨⟨rfl, rfl, fun c k n1 _ => by rw [hI_sI, up3_eq, if_neg (fun e => n1 ⟨e.1, e.2.1⟩)], fun _ _ => rfl, fun _ => rfl, fun _ => rfl, rfl⟩, fun n2 _ => ⟨rfl, rfl, fun c k => by rw [hI_sI, up3_eq, if_neg (fun e => n2 (by rw [e.2.2]; exact hx))], fun _ _ => rfl, fun _ => rfl, fun _ => rfl, rfl⟩⟩⟩
/-- a mark of a text -/
theorem FRS.mT {x : Nat} {w : Int32} (hx : (ow x).1 = 4) : FRS ow T h (sI h 8 3 x w) := ⟨fun _ _ => ⟨rfl, rfl⟩, fun b _ _ => ⟨⟨rfl, rfl, fun c k _ n1 => by rw [hI_sI, up3_eq, if_neg (fun e => n1 ⟨e.1, e.2.1⟩)], fun _ _ => rfl, fun _ => rfl, fun _ => rfl, rfl⟩, fun _ n2 => ⟨rfl, rfl, fun c k => by rw [hI_sI, up3_eq, if_neg (fun e => n2 (by rw [e.2.2]; exact hx))], fun _ _ => rfl, fun _ => rfl, fun _ => rfl, rfl⟩⟩⟩
theorem FRS.spl (p : FRS ow T h h2) : ∃ h1, FRO ow T h h1 ∧ SCR h1 h2 := by
  refine ⟨(hK h2, (fun c k b => if (c = 4 ∧ k = 5 ∨ c = 8 ∧ k = 3) ∧ hK h b ≠ 0 then hI h c k b else hI h2 c k b), hR h2, hN h2, hA h2, hJ h2, hO h2), ⟨p.1, fun b hb hn => ?_⟩, rfl, rfl, fun c k b n1 n2 => ?_, rfl, rfl, rfl, rfl⟩
  · obtain ⟨⟨s1, s2, s3, s4, s5, s6, s7⟩, -⟩ := p.2 b hb hn
    refine ⟨s1, s2, fun c k => ?_, s4, s5, s6, s7⟩
    show (if (c = 4 ∧ k = 5 ∨ c = 8 ∧ k = 3) ∧ hK h b ≠ 0 then hI h c k b else hI h2 c k b) = hI h c k b
    by_cases e : (c = 4 ∧ k = 5 ∨ c = 8 ∧ k = 3) ∧ hK h b ≠ 0
    · rw [if_pos e]
    · rw [if_neg e]
      exact s3 c k (fun q => e ⟨Or.inl q, hb⟩) (fun q => e ⟨Or.inr q, hb⟩)
  · show hI h2 c k b = (if (c = 4 ∧ k = 5 ∨ c = 8 ∧ k = 3) ∧ hK h b ≠ 0 then hI h c k b else hI h2 c k b)
    rw [if_neg (fun e => by rcases e.1 with q | q; exact n1 q; exact n2 q)]
end FRSS
section DSMK
variable {E v : Nat} {Y : gYm} {ow : Nat → gTag} {rl : List (Nat × List (Nat × Nat))} {h h' : gHp} {s : Nat → Nat} {a : Nat → Nat → Nat}
set_option maxRecDepth 100000 in
set_option maxHeartbeats 1600000 in
/-- the desk doesn't see marks -/
theorem DS.mk (hd : DS E Y ow v rl h s a) (p : SCR h h') : DS E Y ow v rl h' s a := by
  obtain ⟨p1, p2, p5, p3, p6, p7, p4⟩ := p
  have i0 : ∀ k b, hI h' 0 k b = hI h 0 k b := fun k b => p5 0 k b (by omega) (by omega)
  have i1 : ∀ k b, hI h' 1 k b = hI h 1 k b := fun k b => p5 1 k b (by omega) (by omega)
  have i2 : ∀ k b, hI h' 2 k b = hI h 2 k b := fun k b => p5 2 k b (by omega) (by omega)
  have i3 : ∀ k b, hI h' 3 k b = hI h 3 k b := fun k b => p5 3 k b (by omega) (by omega)
  have i6 : ∀ k b, hI h' 6 k b = hI h 6 k b := fun k b => p5 6 k b (by omega) (by omega)
  have i7 : ∀ k b, hI h' 7 k b = hI h 7 k b := fun k b => p5 7 k b (by omega) (by omega)
  have i9 : ∀ k b, hI h' 9 k b = hI h 9 k b := fun k b => p5 9 k b (by omega) (by omega)
  have i40 : ∀ b, hI h' 4 0 b = hI h 4 0 b := fun b => p5 4 0 b (by omega) (by omega)
  have i41 : ∀ b, hI h' 4 1 b = hI h 4 1 b := fun b => p5 4 1 b (by omega) (by omega)
  have i42 : ∀ b, hI h' 4 2 b = hI h 4 2 b := fun b => p5 4 2 b (by omega) (by omega)
  have i44 : ∀ b, hI h' 4 4 b = hI h 4 4 b := fun b => p5 4 4 b (by omega) (by omega)
  have i80 : ∀ b, hI h' 8 0 b = hI h 8 0 b := fun b => p5 8 0 b (by omega) (by omega)
  have i82 : ∀ b, hI h' 8 2 b = hI h 8 2 b := fun b => p5 8 2 b (by omega) (by omega)
  have i84 : ∀ b, hI h' 8 4 b = hI h 8 4 b := fun b => p5 8 4 b (by omega) (by omega)
  have i85 : ∀ b, hI h' 8 5 b = hI h 8 5 b := fun b => p5 8 5 b (by omega) (by omega)
  simp only [DS, OWN, D0, DF, DT, DB, DL, DP, DG, DX, DX1, GVF, GVN, DA, DA1, DH, DH1, DU, DR, TXT, ASK, LST, TAP, RUO, RUS, PAP, p1, p2, p3, p4, p6, i0, i1, i2, i3, i6, i7, i9, i40, i41, i42, i44, i80, i82, i84, i85]
  exact hd
end DSMK
