/-! THE LAW: the script, which lies outside the own cells -/
def gXz (B : gB) (b L : Nat) (xs : Nat → Int32) : Prop := b < B.2.2.2.1 ∧ L ≤ 3584 ∧ ∀ (U : State) (H : Heap), B.2.2.2.2 U H → va_X b L xs U H
section LAWE
variable {B : gB} {m : gM} {d c n pc : Nat} {lv : List (Nat × Value)} {st : List Value} {h : gHp} {Q : Option Value → gHp → Prop} {b L : Nat} {xs : Nat → Int32}
theorem gG_sld {i : Nat} (hX : gXz B b L xs) (hdg : decode (gCd m) pc = .ok (.iaload, 1)) (hi : i < L) (kk : gG B m d c n (pc + 1) lv (.int (xs i) :: st) h Q) : gG B m d c n pc lv (.int (nI i) :: .ref b :: st) h Q := by
  intro p e s mi args below meth cd H locs cells slots ls C R S hl
  obtain ⟨hx, hcode, hml, hr, hlo, hown, hnm, hts, ⟨hKK, hEE⟩, hbs, hEx⟩ := id C
  have hL := hX.2.1
  refine va_sld hx hcode (hX.2.2 s s.heap hEE) (Nat.lt_of_lt_of_le hX.1 hbs) (Nat.not_le.mpr hX.1) S ((vpn (by omega) (by omega)).mpr hi) hdg ?_
  rw [nI_clamp (by omega)]
  exact kk p e s mi args below meth cd H locs cells slots ls C R S hl
theorem gG_sle (hX : gXz B b L xs) (hdg : decode (gCd m) pc = .ok (.arraylength, 1)) (kk : gG B m d c n (pc + 1) lv (.int (nI L) :: st) h Q) : gG B m d c n pc lv (.ref b :: st) h Q := by
  intro p e s mi args below meth cd H locs cells slots ls C R S hl
  obtain ⟨hx, hcode, hml, hr, hlo, hown, hnm, hts, ⟨hKK, hEE⟩, hbs, hEx⟩ := id C
  exact va_slen hx hcode (hX.2.2 s s.heap hEE) (Nat.lt_of_lt_of_le hX.1 hbs) (Nat.not_le.mpr hX.1) S hdg (kk p e s mi args below meth cd H locs cells slots ls C R S hl)
/-- script[i + k] -/
theorem sc_I {i k pc : Nat} {z : Int} (hX : gXz B b L xs) (d1 : decode (gCd m) pc = .ok (.aload_n 0, 1)) (d2 : decode (gCd m) (pc + 1) = .ok (.iload 4, 2)) (d3 : decode (gCd m) (pc + 3) = .ok (.iconst z, 1)) (d4 : decode (gCd m) (pc + 4) = .ok (.iadd, 1)) (d5 : decode (gCd m) (pc + 5) = .ok (.iaload, 1)) (hz : Int32.ofInt z = nI k) (hv : lvGet lv 0 = some (.ref b)) (hw : lvGet lv 4 = some (.int (nI i))) (hi : i + k < L) (kk : gG B m d c n (pc + 6) lv (.int (xs (i + k)) :: st) h Q) : gG B m d c n pc lv st h Q := by
  refine gG_aload_nR d1 hv (gG_iload d2 hw (gG_iconst d3 hz (gG_iadd d4 ?_)))
  rw [nI_add]
  exact gG_sld hX d5 hi kk
theorem sc_B {i k pc : Nat} {z : Int} (hX : gXz B b L xs) (d1 : decode (gCd m) pc = .ok (.aload_n 0, 1)) (d2 : decode (gCd m) (pc + 1) = .ok (.iload 4, 2)) (d3 : decode (gCd m) (pc + 3) = .ok (.bipush z, 2)) (d4 : decode (gCd m) (pc + 5) = .ok (.iadd, 1)) (d5 : decode (gCd m) (pc + 6) = .ok (.iaload, 1)) (hz : (Int8.ofInt z).toInt32 = nI k) (hv : lvGet lv 0 = some (.ref b)) (hw : lvGet lv 4 = some (.int (nI i))) (hi : i + k < L) (kk : gG B m d c n (pc + 7) lv (.int (xs (i + k)) :: st) h Q) : gG B m d c n pc lv st h Q := by
  refine gG_aload_nR d1 hv (gG_iload d2 hw (gG_bipush d3 hz (gG_iadd d4 ?_)))
  rw [nI_add]
  exact gG_sld hX d5 hi kk
end LAWE
/-- what stands between two calls -/
def LTG (ow : Nat → gTag) (x : Nat) (xa : Nat → Nat) (o : Nat) : Prop := 9 ≤ (ow x).1 ∧ (∀ k, gIsR 10 k = true → 9 ≤ (ow (xa k)).1) ∧ 9 ≤ (ow o).1
def LIV (E u x : Nat) (xa : Nat → Nat) (o : Nat) (h : gHp) : Prop := ∃ (Y : gYm) (ow : Nat → gTag) (v : Nat) (rl : List (Nat × List (Nat × Nat))) (s : Nat → Nat) (a : Nat → Nat → Nat), DS E Y ow v rl h s a ∧ Y 0 0 0 = u ∧ RS x xa h s a ∧ LTG ow x xa o ∧ JI s a rl ∧ hK h o = 13 ∧ hN h o = 1
section LIVS
variable {ow ow' : Nat → gTag} {h h' : gHp} {x o : Nat} {xa : Nat → Nat} {s : Nat → Nat} {a : Nat → Nat → Nat}
theorem LTG.nw (t : LTG ow x xa o) (hr : RS x xa h s a) (ho : hK h o = 13) (w : ∀ b, hK h b ≠ 0 → ow' b = ow b) : LTG ow' x xa o := by
  have hx : hK h x ≠ 0 := by rw [hr.1.1]; omega
  have hk : ∀ k, gIsR 10 k = true → hK h (xa k) ≠ 0 := fun k q => by
    rw [hr.1.2.2.1 k q]
    have e : ∀ i : Fin 64, gIsR 10 i.val = true → rK i.val ≠ 0 := by decide
    exact e ⟨k, ir_lt q⟩ q
  exact ⟨by rw [w x hx]; exact t.1, fun k q => by rw [w _ (hk k q)]; exact t.2.1 k q, by rw [w o (by omega)]; exact t.2.2⟩
/-- the reference and the answer's cell behind a step of the desk -/
theorem RS.f9 (hr : RS x xa h s a) (t : LTG ow x xa o) (ho : hK h o = 13) (hn : hN h o = 1) (f : FR9 ow h h') : RS x xa h' s a ∧ hK h' o = 13 ∧ hN h' o = 1 ∧ ∀ c k, hI h' c k x = hI h c k x := by
  have hx : hK h x ≠ 0 := by rw [hr.1.1]; omega
  have hk : ∀ k, gIsR 10 k = true → hK h (xa k) ≠ 0 := fun k q => by
    rw [hr.1.2.2.1 k q]
    have e : ∀ i : Fin 64, gIsR 10 i.val = true → rK i.val ≠ 0 := by decide
    exact e ⟨k, ir_lt q⟩ q
  have f1 := f.1 o (by omega)
  exact ⟨hr.sm (f.2 x hx t.1) (fun k q => f.2 _ (hk k q) (t.2.1 k q)), by rw [f1.1]; exact ho, by rw [f1.2]; exact hn, (f.2 x hx t.1).2.2.1⟩
end LIVS
