/-! rows for reading conditions, and THE REFERENCE's object: x its address, xa k the array in field k -/
theorem gAx {B : gB} {m : gM} {d : Nat} {cut : List (Nat × List Nat)} {Q : Option Value → gHp → Prop} (hok : (gTb m).all (okE gF gNM m) = true) (k : Nat) {c n pc : Nat} {lv : List (Nat × Value)} {st : List Value} {h : gHp} (hs : ax gF B m d cut Q k c n pc lv st h) : gG B m (d + 1) c n pc lv st h Q :=
  ax_sound (fun r hr hk => okMb_V (gMs_at hr) hk) (fun r hr hk => okMb_S (gMs_at hr) hk) (fun r hr hk => okMb_I (gMs_at hr) hk) gObj_in hok k hs
theorem gStartX {B : gB} {m : gM} {d : Nat} {cut : List (Nat × List Nat)} {Q : Option Value → gHp → Prop} {args : List Value} {h : gHp} {c n : Nat} (hy : plainName (gY m).cls = true) (hok : (gTb m).all (okE gF gNM m) = true) (hl : (lg_sl args).length ≤ gL m) (k : Nat) (hs : ax gF B m d cut Q k c n 0 (lv_args 0 args) [] h) : gFn B m (d + 1) c n args h Q :=
  gFn_of hy hl (gAx hok k hs)
theorem fv0 : ((0 : Fin 4) : Nat) = 0 := rfl
theorem fv1 : ((1 : Fin 4) : Nat) = 1 := rfl
theorem fv2 : ((2 : Fin 4) : Nat) = 2 := rfl
theorem fv3 : ((3 : Fin 4) : Nat) = 3 := rfl
theorem va_rf_s (a : Nat) : va_rf (some a) = .ref a := rfl
theorem va_rf_n : va_rf none = .null := rfl
theorem gFilter_nil {α : Type} (p : α → Bool) : List.filter p [] = [] := rfl
theorem gFilter_cons {α : Type} (p : α → Bool) (a : α) (l : List α) : List.filter p (a :: l) = if p a = true then a :: List.filter p l else List.filter p l := by
  simp only [List.filter_cons]
theorem gL1 (x : Int32) : Value.category (.int x) = 1 := rfl
theorem gL2 (x : Int64) : Value.category (.long x) = 2 := rfl
theorem gL3 (x : Nat) : Value.category (.ref x) = 1 := rfl
theorem gL4 : Value.category .null = 1 := rfl
theorem gL5 (r : Option Nat) : Value.category (va_rf r) = 1 := by cases r <;> rfl
theorem gL6 (x : Int32) (l : List Value) : ((Value.int x :: l).map fun v => v.category) = 1 :: (l.map fun v => v.category) := rfl
def bI (b : Bool) : Int32 := if b then 1 else 0
def rKs : List Nat := [0, 112, 0, 0, 112, 112, 113, 0, 0, 113, 112, 112, 112, 112, 112, 0, 0, 0, 0, 112, 112, 112, 112, 112, 0, 0, 112, 0, 112, 112, 112, 0, 112, 112, 112, 112, 0, 112, 114, 112, 112, 112, 112, 114, 0, 112, 0, 112, 112, 112, 112, 112, 112, 112, 112, 114, 114, 0, 112, 112, 112, 112, 114, 114]
def rNs : List Nat := [0, 600, 0, 0, 602, 602, 602, 0, 0, 8, 2, 32, 32, 1320, 1320, 0, 0, 0, 0, 7, 7, 7, 5, 660, 0, 0, 20, 0, 40, 40, 40, 0, 120, 120, 120, 1440, 0, 120, 120, 120, 480, 480, 480, 8, 0, 12, 0, 20, 20, 20, 20, 80, 20, 20, 20, 100000, 2400, 0, 300, 300, 300, 3600, 40, 120]
def rK (k : Nat) : Nat := rKs.getD k 0
def rN (k : Nat) : Nat := rNs.getD k 0
def RW (x : Nat) (xa : Nat → Nat) (h : gHp) : Prop := hK h x = 11 ∧ (∀ k, gIsR 10 k = true → hR h 10 k x = some (xa k)) ∧ (∀ k, gIsR 10 k = true → hK h (xa k) = rK k) ∧ (∀ k, gIsR 10 k = true → hN h (xa k) = rN k) ∧ (∀ i j, gIsR 10 i = true → gIsR 10 j = true → (xa i = xa j ↔ i = j))
theorem ir_1 : gIsR 10 1 = true := by decide
theorem rK_1 : rK 1 = 112 := by decide
theorem rN_1 : rN 1 = 600 := by decide
theorem ir_4 : gIsR 10 4 = true := by decide
theorem rK_4 : rK 4 = 112 := by decide
theorem rN_4 : rN 4 = 602 := by decide
theorem ir_5 : gIsR 10 5 = true := by decide
theorem rK_5 : rK 5 = 112 := by decide
theorem rN_5 : rN 5 = 602 := by decide
theorem ir_6 : gIsR 10 6 = true := by decide
theorem rK_6 : rK 6 = 113 := by decide
theorem rN_6 : rN 6 = 602 := by decide
theorem ir_9 : gIsR 10 9 = true := by decide
theorem rK_9 : rK 9 = 113 := by decide
theorem rN_9 : rN 9 = 8 := by decide
theorem ir_10 : gIsR 10 10 = true := by decide
theorem rK_10 : rK 10 = 112 := by decide
theorem rN_10 : rN 10 = 2 := by decide
theorem ir_11 : gIsR 10 11 = true := by decide
theorem rK_11 : rK 11 = 112 := by decide
theorem rN_11 : rN 11 = 32 := by decide
theorem ir_12 : gIsR 10 12 = true := by decide
theorem rK_12 : rK 12 = 112 := by decide
theorem rN_12 : rN 12 = 32 := by decide
theorem ir_13 : gIsR 10 13 = true := by decide
theorem rK_13 : rK 13 = 112 := by decide
theorem rN_13 : rN 13 = 1320 := by decide
theorem ir_14 : gIsR 10 14 = true := by decide
theorem rK_14 : rK 14 = 112 := by decide
theorem rN_14 : rN 14 = 1320 := by decide
theorem ir_19 : gIsR 10 19 = true := by decide
theorem rK_19 : rK 19 = 112 := by decide
theorem rN_19 : rN 19 = 7 := by decide
theorem ir_20 : gIsR 10 20 = true := by decide
theorem rK_20 : rK 20 = 112 := by decide
theorem rN_20 : rN 20 = 7 := by decide
theorem ir_21 : gIsR 10 21 = true := by decide
theorem rK_21 : rK 21 = 112 := by decide
theorem rN_21 : rN 21 = 7 := by decide
theorem ir_22 : gIsR 10 22 = true := by decide
theorem rK_22 : rK 22 = 112 := by decide
theorem rN_22 : rN 22 = 5 := by decide
theorem ir_23 : gIsR 10 23 = true := by decide
theorem rK_23 : rK 23 = 112 := by decide
theorem rN_23 : rN 23 = 660 := by decide
theorem ir_26 : gIsR 10 26 = true := by decide
theorem rK_26 : rK 26 = 112 := by decide
theorem rN_26 : rN 26 = 20 := by decide
theorem ir_28 : gIsR 10 28 = true := by decide
theorem rK_28 : rK 28 = 112 := by decide
theorem rN_28 : rN 28 = 40 := by decide
theorem ir_29 : gIsR 10 29 = true := by decide
theorem rK_29 : rK 29 = 112 := by decide
theorem rN_29 : rN 29 = 40 := by decide
theorem ir_30 : gIsR 10 30 = true := by decide
theorem rK_30 : rK 30 = 112 := by decide
theorem rN_30 : rN 30 = 40 := by decide
theorem ir_32 : gIsR 10 32 = true := by decide
theorem rK_32 : rK 32 = 112 := by decide
theorem rN_32 : rN 32 = 120 := by decide
theorem ir_33 : gIsR 10 33 = true := by decide
theorem rK_33 : rK 33 = 112 := by decide
theorem rN_33 : rN 33 = 120 := by decide
theorem ir_34 : gIsR 10 34 = true := by decide
theorem rK_34 : rK 34 = 112 := by decide
theorem rN_34 : rN 34 = 120 := by decide
theorem ir_35 : gIsR 10 35 = true := by decide
theorem rK_35 : rK 35 = 112 := by decide
theorem rN_35 : rN 35 = 1440 := by decide
theorem ir_37 : gIsR 10 37 = true := by decide
theorem rK_37 : rK 37 = 112 := by decide
theorem rN_37 : rN 37 = 120 := by decide
theorem ir_38 : gIsR 10 38 = true := by decide
theorem rK_38 : rK 38 = 114 := by decide
theorem rN_38 : rN 38 = 120 := by decide
theorem ir_39 : gIsR 10 39 = true := by decide
theorem rK_39 : rK 39 = 112 := by decide
theorem rN_39 : rN 39 = 120 := by decide
theorem ir_40 : gIsR 10 40 = true := by decide
theorem rK_40 : rK 40 = 112 := by decide
theorem rN_40 : rN 40 = 480 := by decide
theorem ir_41 : gIsR 10 41 = true := by decide
theorem rK_41 : rK 41 = 112 := by decide
theorem rN_41 : rN 41 = 480 := by decide
theorem ir_42 : gIsR 10 42 = true := by decide
theorem rK_42 : rK 42 = 112 := by decide
theorem rN_42 : rN 42 = 480 := by decide
theorem ir_43 : gIsR 10 43 = true := by decide
theorem rK_43 : rK 43 = 114 := by decide
theorem rN_43 : rN 43 = 8 := by decide
theorem ir_45 : gIsR 10 45 = true := by decide
theorem rK_45 : rK 45 = 112 := by decide
theorem rN_45 : rN 45 = 12 := by decide
theorem ir_47 : gIsR 10 47 = true := by decide
theorem rK_47 : rK 47 = 112 := by decide
theorem rN_47 : rN 47 = 20 := by decide
theorem ir_48 : gIsR 10 48 = true := by decide
theorem rK_48 : rK 48 = 112 := by decide
theorem rN_48 : rN 48 = 20 := by decide
theorem ir_49 : gIsR 10 49 = true := by decide
theorem rK_49 : rK 49 = 112 := by decide
theorem rN_49 : rN 49 = 20 := by decide
theorem ir_50 : gIsR 10 50 = true := by decide
theorem rK_50 : rK 50 = 112 := by decide
theorem rN_50 : rN 50 = 20 := by decide
theorem ir_51 : gIsR 10 51 = true := by decide
theorem rK_51 : rK 51 = 112 := by decide
theorem rN_51 : rN 51 = 80 := by decide
theorem ir_52 : gIsR 10 52 = true := by decide
theorem rK_52 : rK 52 = 112 := by decide
theorem rN_52 : rN 52 = 20 := by decide
theorem ir_53 : gIsR 10 53 = true := by decide
theorem rK_53 : rK 53 = 112 := by decide
theorem rN_53 : rN 53 = 20 := by decide
theorem ir_54 : gIsR 10 54 = true := by decide
theorem rK_54 : rK 54 = 112 := by decide
theorem rN_54 : rN 54 = 20 := by decide
theorem ir_55 : gIsR 10 55 = true := by decide
theorem rK_55 : rK 55 = 114 := by decide
theorem rN_55 : rN 55 = 100000 := by decide
theorem ir_56 : gIsR 10 56 = true := by decide
theorem rK_56 : rK 56 = 114 := by decide
theorem rN_56 : rN 56 = 2400 := by decide
theorem ir_58 : gIsR 10 58 = true := by decide
theorem rK_58 : rK 58 = 112 := by decide
theorem rN_58 : rN 58 = 300 := by decide
theorem ir_59 : gIsR 10 59 = true := by decide
theorem rK_59 : rK 59 = 112 := by decide
theorem rN_59 : rN 59 = 300 := by decide
theorem ir_60 : gIsR 10 60 = true := by decide
theorem rK_60 : rK 60 = 112 := by decide
theorem rN_60 : rN 60 = 300 := by decide
theorem ir_61 : gIsR 10 61 = true := by decide
theorem rK_61 : rK 61 = 112 := by decide
theorem rN_61 : rN 61 = 3600 := by decide
theorem ir_62 : gIsR 10 62 = true := by decide
theorem rK_62 : rK 62 = 114 := by decide
theorem rN_62 : rN 62 = 40 := by decide
theorem ir_63 : gIsR 10 63 = true := by decide
theorem rK_63 : rK 63 = 114 := by decide
theorem rN_63 : rN 63 = 120 := by decide
def rUs : List Nat := [0, 1, 0, 0, 1, 1, 4, 0, 0, 4, 1, 1, 1, 1, 1, 0, 0, 0, 0, 1, 1, 1, 5, 5, 0, 0, 1, 0, 1, 1, 1, 0, 1, 1, 1, 1, 0, 1, 2, 1, 1, 1, 1, 2, 0, 1, 0, 1, 1, 1, 1, 1, 1, 3, 3, 2, 2, 0, 1, 1, 1, 1, 2, 2]
def rU (k : Nat) : Nat := rUs.getD k 0
theorem ru_0 : rU 0 = 0 := by decide
theorem is_0 : gIsR 10 0 = false := by decide
theorem ru_1 : rU 1 = 1 := by decide
theorem ru_2 : rU 2 = 0 := by decide
theorem is_2 : gIsR 10 2 = false := by decide
theorem ru_3 : rU 3 = 0 := by decide
theorem is_3 : gIsR 10 3 = false := by decide
theorem ru_4 : rU 4 = 1 := by decide
theorem ru_5 : rU 5 = 1 := by decide
theorem ru_6 : rU 6 = 4 := by decide
theorem ru_7 : rU 7 = 0 := by decide
theorem is_7 : gIsR 10 7 = false := by decide
theorem ru_8 : rU 8 = 0 := by decide
theorem is_8 : gIsR 10 8 = false := by decide
theorem ru_9 : rU 9 = 4 := by decide
theorem ru_10 : rU 10 = 1 := by decide
theorem ru_11 : rU 11 = 1 := by decide
theorem ru_12 : rU 12 = 1 := by decide
theorem ru_13 : rU 13 = 1 := by decide
theorem ru_14 : rU 14 = 1 := by decide
theorem ru_15 : rU 15 = 0 := by decide
theorem is_15 : gIsR 10 15 = false := by decide
theorem ru_16 : rU 16 = 0 := by decide
theorem is_16 : gIsR 10 16 = false := by decide
theorem ru_17 : rU 17 = 0 := by decide
theorem is_17 : gIsR 10 17 = false := by decide
theorem ru_18 : rU 18 = 0 := by decide
theorem is_18 : gIsR 10 18 = false := by decide
theorem ru_19 : rU 19 = 1 := by decide
theorem ru_20 : rU 20 = 1 := by decide
theorem ru_21 : rU 21 = 1 := by decide
theorem ru_22 : rU 22 = 5 := by decide
theorem ru_23 : rU 23 = 5 := by decide
theorem ru_24 : rU 24 = 0 := by decide
theorem is_24 : gIsR 10 24 = false := by decide
theorem ru_25 : rU 25 = 0 := by decide
theorem is_25 : gIsR 10 25 = false := by decide
theorem ru_26 : rU 26 = 1 := by decide
theorem ru_27 : rU 27 = 0 := by decide
theorem is_27 : gIsR 10 27 = false := by decide
theorem ru_28 : rU 28 = 1 := by decide
theorem ru_29 : rU 29 = 1 := by decide
theorem ru_30 : rU 30 = 1 := by decide
theorem ru_31 : rU 31 = 0 := by decide
theorem is_31 : gIsR 10 31 = false := by decide
theorem ru_32 : rU 32 = 1 := by decide
theorem ru_33 : rU 33 = 1 := by decide
theorem ru_34 : rU 34 = 1 := by decide
theorem ru_35 : rU 35 = 1 := by decide
theorem ru_36 : rU 36 = 0 := by decide
theorem is_36 : gIsR 10 36 = false := by decide
theorem ru_37 : rU 37 = 1 := by decide
theorem ru_38 : rU 38 = 2 := by decide
theorem ru_39 : rU 39 = 1 := by decide
theorem ru_40 : rU 40 = 1 := by decide
theorem ru_41 : rU 41 = 1 := by decide
theorem ru_42 : rU 42 = 1 := by decide
theorem ru_43 : rU 43 = 2 := by decide
theorem ru_44 : rU 44 = 0 := by decide
theorem is_44 : gIsR 10 44 = false := by decide
theorem ru_45 : rU 45 = 1 := by decide
theorem ru_46 : rU 46 = 0 := by decide
theorem is_46 : gIsR 10 46 = false := by decide
theorem ru_47 : rU 47 = 1 := by decide
theorem ru_48 : rU 48 = 1 := by decide
theorem ru_49 : rU 49 = 1 := by decide
theorem ru_50 : rU 50 = 1 := by decide
theorem ru_51 : rU 51 = 1 := by decide
theorem ru_52 : rU 52 = 1 := by decide
theorem ru_53 : rU 53 = 3 := by decide
theorem ru_54 : rU 54 = 3 := by decide
theorem ru_55 : rU 55 = 2 := by decide
theorem ru_56 : rU 56 = 2 := by decide
theorem ru_57 : rU 57 = 0 := by decide
theorem is_57 : gIsR 10 57 = false := by decide
theorem ru_58 : rU 58 = 1 := by decide
theorem ru_59 : rU 59 = 1 := by decide
theorem ru_60 : rU 60 = 1 := by decide
theorem ru_61 : rU 61 = 1 := by decide
theorem ru_62 : rU 62 = 2 := by decide
theorem ru_63 : rU 63 = 2 := by decide
theorem rU_K {k : Nat} (h : rU k ≠ 0) : gIsR 10 k = true ∧ k < 64 := by
  have hk : k < 64 := by
    rcases Nat.lt_or_ge k 64 with q | q
    · exact q
    · exact absurd (by unfold rU; rw [List.getD_eq_getElem?_getD, List.getElem?_eq_none (by simpa [rUs] using q)]; rfl) h
  refine ⟨?_, hk⟩
  have hd : ∀ i : Fin 64, rU i.val ≠ 0 → gIsR 10 i.val = true := by decide
  exact hd ⟨k, hk⟩ h
theorem rU_1 {k : Nat} (h : rU k = 1) : rK k = 112 := by
  have hk := (rU_K (k := k) (by omega)).2
  have hd : ∀ i : Fin 64, rU i.val = 1 → rK i.val = 112 := by decide
  exact hd ⟨k, hk⟩ h
theorem rU_2 {k : Nat} (h : rU k = 2) : rK k = 114 := by
  have hk := (rU_K (k := k) (by omega)).2
  have hd : ∀ i : Fin 64, rU i.val = 2 → rK i.val = 114 := by decide
  exact hd ⟨k, hk⟩ h
/-- the scalars, but 'thrown' -/
def rSc (k : Nat) : Bool := !(gIsR 10 k) && !(k == 0)
theorem sc_2 : rSc 2 = true := by decide
theorem sc_3 : rSc 3 = true := by decide
theorem sc_7 : rSc 7 = true := by decide
theorem sc_8 : rSc 8 = true := by decide
theorem sc_15 : rSc 15 = true := by decide
theorem sc_16 : rSc 16 = true := by decide
theorem sc_17 : rSc 17 = true := by decide
theorem sc_18 : rSc 18 = true := by decide
theorem sc_24 : rSc 24 = true := by decide
theorem sc_25 : rSc 25 = true := by decide
theorem sc_27 : rSc 27 = true := by decide
theorem sc_31 : rSc 31 = true := by decide
theorem sc_36 : rSc 36 = true := by decide
theorem sc_44 : rSc 44 = true := by decide
theorem sc_46 : rSc 46 = true := by decide
theorem sc_57 : rSc 57 = true := by decide
/-- -1 is 0, n is n + 1 -/
def sg (n : Nat) : Int32 := nI n - 1
/-- the reference's state in numbers: s the scalars, a the arrays -/
def RS (x : Nat) (xa : Nat → Nat) (h : gHp) (s : Nat → Nat) (a : Nat → Nat → Nat) : Prop := RW x xa h ∧ (∀ k, rSc k = true → hI h 10 k x = nI (s k)) ∧ (∀ k j, rU k = 1 → hA h 112 (xa k) j = nI (a k j)) ∧ (∀ k j, rU k = 2 → hA h 114 (xa k) j = nI (a k j)) ∧ (∀ k j, rU k = 3 → hA h 112 (xa k) j = sg (a k j)) ∧ (∀ k j, rU k = 4 → hJ h 113 (xa k) j = lN (a k j)) ∧ (∀ k j, rU k ≠ 4 → a k j < 2 ^ 31)
/-- nothing but the reference's own cells has changed -/
def RP (h h' : gHp) : Prop := hK h' = hK h ∧ hR h' = hR h ∧ hN h' = hN h ∧ hO h' = hO h ∧ (∀ c k b, c ≠ 10 → hI h' c k b = hI h c k b) ∧ (∀ t, t ≠ 112 → t ≠ 114 → hA h' t = hA h t) ∧ (∀ t, t ≠ 113 → hJ h' t = hJ h t)
theorem RP.rf (h : gHp) : RP h h := ⟨rfl, rfl, rfl, rfl, fun _ _ _ _ => rfl, fun _ _ _ => rfl, fun _ _ => rfl⟩
theorem RP.tp {h h1 h2 : gHp} (p : RP h h1) (q : RP h1 h2) : RP h h2 := ⟨q.1.trans p.1, q.2.1.trans p.2.1, q.2.2.1.trans p.2.2.1, q.2.2.2.1.trans p.2.2.2.1, fun c k b hc => (q.2.2.2.2.1 c k b hc).trans (p.2.2.2.2.1 c k b hc), fun t h1 h2 => (q.2.2.2.2.2.1 t h1 h2).trans (p.2.2.2.2.2.1 t h1 h2), fun t h1 => (q.2.2.2.2.2.2 t h1).trans (p.2.2.2.2.2.2 t h1)⟩
theorem RP.I {h h1 : gHp} (p : RP h h1) {k x : Nat} {v : Int32} : RP h (sI h1 10 k x v) := p.tp ⟨rfl, rfl, rfl, rfl, fun c k' b hc => by simp [hI_sI, up3, hc], fun _ _ _ => rfl, fun _ _ => rfl⟩
theorem RP.A {h h1 : gHp} (p : RP h h1) {t b : Nat} {f : Nat → Int32} (ht : t = 112 ∨ t = 114) : RP h (sA h1 t b f) := p.tp ⟨rfl, rfl, rfl, rfl, fun _ _ _ _ => rfl, fun t' h1 h2 => by
  funext b'
  rw [hA_sA, up2_eq, if_neg (by rcases ht with rfl | rfl <;> simp [h1, h2])], fun _ _ => rfl⟩
theorem RP.J {h h1 : gHp} (p : RP h h1) {b : Nat} {f : Nat → Int64} : RP h (sJ h1 113 b f) := p.tp ⟨rfl, rfl, rfl, rfl, fun _ _ _ _ => rfl, fun _ _ _ => rfl, fun t' h1 => by
  funext b'
  rw [hJ_sJ, up2_eq, if_neg (by simp [h1])]⟩
/-- .. and 'thrown' is as it was -/
def RF (h h' : gHp) : Prop := RP h h' ∧ ∀ b, hI h' 10 0 b = hI h 10 0 b
theorem RF.rf (h : gHp) : RF h h := ⟨RP.rf h, fun _ => rfl⟩
theorem RF.tr {h h1 h2 : gHp} (p : RF h h1) (q : RF h1 h2) : RF h h2 := ⟨p.1.tp q.1, fun b => (q.2 b).trans (p.2 b)⟩
theorem RF.I {h h1 : gHp} (p : RF h h1) {k x : Nat} {v : Int32} (hk : k ≠ 0 := by decide) : RF h (sI h1 10 k x v) := ⟨p.1.I, fun b => by rw [hI_sI, up3_eq, if_neg (fun c => hk c.2.1.symm)]; exact p.2 b⟩
theorem RF.A {h h1 : gHp} (p : RF h h1) {t b : Nat} {f : Nat → Int32} (ht : t = 112 ∨ t = 114) : RF h (sA h1 t b f) := ⟨p.1.A ht, p.2⟩
theorem RF.J {h h1 : gHp} (p : RF h h1) {b : Nat} {f : Nat → Int64} : RF h (sJ h1 113 b f) := ⟨p.1.J, p.2⟩
theorem RP.tr {h h1 h2 : gHp} (p : RP h h1) (q : RF h1 h2) : RP h h2 := p.tp q.1
theorem RS.I {x : Nat} {xa : Nat → Nat} {h : gHp} {s : Nat → Nat} {a : Nat → Nat → Nat} (r : RS x xa h s a) {k : Nat} (v : Nat) : RS x xa (sI h 10 k x (nI v)) (va_up s k v) a := by
  obtain ⟨r0, r1, r2⟩ := r
  refine ⟨r0, fun k' hk' => ?_, r2⟩
  rw [hI_sI, up3_eq, va_up_eq]
  by_cases e : k' = k
  · simp [e]
  · simp [e, r1 k' hk']
/-- 'thrown' is no part of the state -/
theorem RS.T {x : Nat} {xa : Nat → Nat} {h : gHp} {s : Nat → Nat} {a : Nat → Nat → Nat} (r : RS x xa h s a) (v : Int32) : RS x xa (sI h 10 0 x v) s a := by
  obtain ⟨r0, r1, r2⟩ := r
  refine ⟨r0, fun k' hk' => ?_, r2⟩
  have : k' ≠ 0 := by intro e; subst e; cases hk'
  rw [hI_sI, up3_eq, if_neg (by simp [this])]
  exact r1 k' hk'
theorem RS.A {x : Nat} {xa : Nat → Nat} {h : gHp} {s : Nat → Nat} {a : Nat → Nat → Nat} (r : RS x xa h s a) {k : Nat} (j v : Nat) (hk : rU k = 1) (hv : v < 2 ^ 31 := by omega) : RS x xa (sA h 112 (xa k) (upd (hA h 112 (xa k)) j (nI v))) s (up2 a k j v) := by
  obtain ⟨r0, r1, r2, r3, r4, r5, r6⟩ := r
  have hi := (rU_K (k := k) (by omega)).1
  refine ⟨r0, r1, fun k' j' hk' => ?_, fun k' j' hk' => ?_, fun k' j' hk' => ?_, fun k' j' hk' => ?_, fun k' j' hk' => by rw [up2_eq]; split <;> first | exact hv | exact r6 k' j' hk'⟩
  · rw [hA_sA, up2_eq, up2_eq]
    have := r0.2.2.2.2 k' k (rU_K (by omega)).1 hi
    by_cases e : k' = k
    · subst e
      by_cases e2 : j' = j
      · simp [upd, e2]
      · simp [upd, e2, r2 k' j' hk']
    · simp [this, e, r2 k' j' hk']
  · have := r0.2.2.2.2 k' k (rU_K (by omega)).1 hi
    have hne : k' ≠ k := by intro e; subst e; omega
    rw [hA_sA, up2_eq, up2_eq]; simp [hne, r3 k' j' hk']
  · have := r0.2.2.2.2 k' k (rU_K (by omega)).1 hi
    have hne : k' ≠ k := by intro e; subst e; omega
    rw [hA_sA, up2_eq, up2_eq]; simp [this, hne, r4 k' j' hk']
  · have hne : k' ≠ k := by intro e; subst e; omega
    rw [hJ_sA, up2_eq]; simp [hne, r5 k' j' hk']
theorem RS.Z {x : Nat} {xa : Nat → Nat} {h : gHp} {s : Nat → Nat} {a : Nat → Nat → Nat} (r : RS x xa h s a) {k : Nat} (j v : Nat) (hk : rU k = 2) (hv : v < 2 ^ 31 := by omega) : RS x xa (sA h 114 (xa k) (upd (hA h 114 (xa k)) j (nI v))) s (up2 a k j v) := by
  obtain ⟨r0, r1, r2, r3, r4, r5, r6⟩ := r
  have hi := (rU_K (k := k) (by omega)).1
  refine ⟨r0, r1, fun k' j' hk' => ?_, fun k' j' hk' => ?_, fun k' j' hk' => ?_, fun k' j' hk' => ?_, fun k' j' hk' => by rw [up2_eq]; split <;> first | exact hv | exact r6 k' j' hk'⟩
  · have hne : k' ≠ k := by intro e; subst e; omega
    rw [hA_sA, up2_eq, up2_eq]; simp [hne, r2 k' j' hk']
  · rw [hA_sA, up2_eq, up2_eq]
    have := r0.2.2.2.2 k' k (rU_K (by omega)).1 hi
    by_cases e : k' = k
    · subst e
      by_cases e2 : j' = j
      · simp [upd, e2]
      · simp [upd, e2, r3 k' j' hk']
    · simp [this, e, r3 k' j' hk']
  · have hne : k' ≠ k := by intro e; subst e; omega
    rw [hA_sA, up2_eq, up2_eq]; simp [hne, r4 k' j' hk']
  · have hne : k' ≠ k := by intro e; subst e; omega
    rw [hJ_sA, up2_eq]; simp [hne, r5 k' j' hk']
theorem RS.G {x : Nat} {xa : Nat → Nat} {h : gHp} {s : Nat → Nat} {a : Nat → Nat → Nat} (r : RS x xa h s a) {k : Nat} (j v : Nat) (hk : rU k = 3) (hv : v < 2 ^ 31 := by omega) : RS x xa (sA h 112 (xa k) (upd (hA h 112 (xa k)) j (sg v))) s (up2 a k j v) := by
  obtain ⟨r0, r1, r2, r3, r4, r5, r6⟩ := r
  have hi := (rU_K (k := k) (by omega)).1
  refine ⟨r0, r1, fun k' j' hk' => ?_, fun k' j' hk' => ?_, fun k' j' hk' => ?_, fun k' j' hk' => ?_, fun k' j' hk' => by rw [up2_eq]; split <;> first | exact hv | exact r6 k' j' hk'⟩
  · have := r0.2.2.2.2 k' k (rU_K (by omega)).1 hi
    have hne : k' ≠ k := by intro e; subst e; omega
    rw [hA_sA, up2_eq, up2_eq]; simp [this, hne, r2 k' j' hk']
  · have hne : k' ≠ k := by intro e; subst e; omega
    rw [hA_sA, up2_eq, up2_eq]; simp [hne, r3 k' j' hk']
  · rw [hA_sA, up2_eq, up2_eq]
    have := r0.2.2.2.2 k' k (rU_K (by omega)).1 hi
    by_cases e : k' = k
    · subst e
      by_cases e2 : j' = j
      · simp [upd, e2]
      · simp [upd, e2, r4 k' j' hk']
    · simp [this, e, r4 k' j' hk']
  · have hne : k' ≠ k := by intro e; subst e; omega
    rw [hJ_sA, up2_eq]; simp [hne, r5 k' j' hk']
theorem RS.J {x : Nat} {xa : Nat → Nat} {h : gHp} {s : Nat → Nat} {a : Nat → Nat → Nat} (r : RS x xa h s a) {k : Nat} (j v : Nat) (hk : rU k = 4) : RS x xa (sJ h 113 (xa k) (vp_updL (hJ h 113 (xa k)) j (lN v))) s (up2 a k j v) := by
  obtain ⟨r0, r1, r2, r3, r4, r5, r6⟩ := r
  have hi := (rU_K (k := k) (by omega)).1
  refine ⟨r0, r1, fun k' j' hk' => ?_, fun k' j' hk' => ?_, fun k' j' hk' => ?_, fun k' j' hk' => ?_, fun k' j' hk' => by rw [up2_eq, if_neg (by intro e; exact hk' (e.1 ▸ hk))]; exact r6 k' j' hk'⟩
  · have hne : k' ≠ k := by intro e; subst e; omega
    rw [hA_sJ, up2_eq]; simp [hne, r2 k' j' hk']
  · have hne : k' ≠ k := by intro e; subst e; omega
    rw [hA_sJ, up2_eq]; simp [hne, r3 k' j' hk']
  · have hne : k' ≠ k := by intro e; subst e; omega
    rw [hA_sJ, up2_eq]; simp [hne, r4 k' j' hk']
  · rw [hJ_sJ, up2_eq, up2_eq]
    have := r0.2.2.2.2 k' k (rU_K (by omega)).1 hi
    by_cases e : k' = k
    · subst e
      by_cases e2 : j' = j
      · simp [vp_updL, e2]
      · simp [vp_updL, e2, r5 k' j' hk']
    · simp [this, e, r5 k' j' hk']
/-- the two arrays of scratch: the state stays -/
theorem RS.X {x : Nat} {xa : Nat → Nat} {h : gHp} {s : Nat → Nat} {a : Nat → Nat → Nat} (r : RS x xa h s a) {k : Nat} {f : Nat → Int32} (hk : rU k = 5) : RS x xa (sA h 112 (xa k) f) s a := by
  obtain ⟨r0, r1, r2, r3, r4, r5, r6⟩ := r
  have hi := (rU_K (k := k) (by omega)).1
  refine ⟨r0, r1, fun k' j' hk' => ?_, fun k' j' hk' => ?_, fun k' j' hk' => ?_, fun k' j' hk' => ?_, r6⟩
  · have := r0.2.2.2.2 k' k (rU_K (by omega)).1 hi
    have hne : k' ≠ k := by intro e; subst e; omega
    rw [hA_sA, up2_eq]; simp [this, hne, r2 k' j' hk']
  · rw [hA_sA, up2_eq]; simp [r3 k' j' hk']
  · have := r0.2.2.2.2 k' k (rU_K (by omega)).1 hi
    have hne : k' ≠ k := by intro e; subst e; omega
    rw [hA_sA, up2_eq]; simp [this, hne, r4 k' j' hk']
  · rw [hJ_sA]; exact r5 k' j' hk'
/-- numbers -/
theorem z0 : (0 : Int32) = nI 0 := rfl
theorem o1 : (1 : Int32) = nI 1 := rfl
theorem vpn {n N : Nat} (h : n < 2 ^ 31) (hN : N < 2 ^ 31) : vp_in (nI n) N ↔ n < N := by
  rw [vp_in_iff, nI_toInt h]; omega
theorem sg_0 : sg 0 = -1 := rfl
theorem sg_s (n : Nat) : sg (n + 1) = nI n := nI_pred n
theorem bI_t : bI true = nI 1 := rfl
theorem bI_f : bI false = nI 0 := rfl
theorem bI_01 (b : Bool) : bI b = nI 0 ∨ bI b = nI 1 := by cases b <;> simp [bI, z0, o1]
theorem bI_0 (b : Bool) : (bI b = nI 0) = (b = false) := by cases b <;> simp [bI, nI]
theorem bI_1 (b : Bool) : (bI b = nI 1) = (b = true) := by cases b <;> simp [bI, nI]
theorem nI_neg1 {n : Nat} (h : n < 2 ^ 31) : ¬ nI n = -nI 1 := by
  intro e
  have := congrArg Int32.toInt e
  rw [nI_toInt h] at this
  have h1 : (-nI 1).toInt = -1 := rfl
  rw [h1] at this
  omega
/-- an int is below 0, or a number -/
theorem i_cases (y : Int32) : y < 0 ∨ ∃ j : Nat, j < 2 ^ 31 ∧ y = nI j := by
  by_cases h : y < 0
  · exact Or.inl h
  · exact Or.inr (nI_of h)
theorem ix3 (f : Int32) {n : Nat} (hn : n < 2 ^ 31) : (f < 0 ∧ ∀ j, j < n → ¬ f = nI j) ∨ (¬ f < 0 ∧ nI n ≤ f ∧ ∀ j, j < n → ¬ f = nI j) ∨ (∃ j, j < n ∧ f = nI j) := by
  rcases pk_ix f hn with h | h | h
  · refine Or.inl ⟨h, fun j hj e => ?_⟩
    subst e
    exact nI_pos (n := j) (by omega) h
  · refine Or.inr (Or.inl ⟨fun q => ?_, h, fun j hj e => ?_⟩)
    · exact nI_pos (n := n) hn (Int32.lt_of_le_of_lt h q)
    · subst e
      exact nI_ge hj hn h
  · exact Or.inr (Or.inr h)
theorem nI0z : (nI 0 = 0) = True := eq_true rfl
theorem nI1o : (nI 1 = 1) = True := eq_true rfl
theorem nI1z : (nI 1 = 0) = False := eq_false (by decide)
theorem nI0o : (nI 0 = 1) = False := eq_false (by decide)
theorem nI0q : (nI 0 = nI 1) = False := eq_false (by decide)
theorem nI1q : (nI 1 = nI 0) = False := eq_false (by decide)
theorem nm1_lt : (-nI 1 < 0) = True := eq_true (by decide)
theorem nm1_ge : (0 ≤ -nI 1) = False := eq_false (by decide)
theorem upd_e (f : Nat → Int32) (k : Nat) (v : Int32) (j : Nat) : upd f k v j = if j = k then v else f j := rfl
theorem updL_e (f : Nat → Int64) (k : Nat) (v : Int64) (j : Nat) : vp_updL f k v j = if j = k then v else f j := rfl
/-- bits of a set of persons -/
theorem th_or : ∀ t : Fin 256, ∀ q : Fin 8, nI t.val ||| (nI 1 <<< (nI q.val &&& 31)) = nI (t.val ||| 2 ^ q.val) := by decide +kernel
theorem th_an : ∀ t : Fin 256, ∀ q : Fin 8, nI t.val &&& ((nI 1 <<< (nI q.val &&& 31)) ^^^ (-nI 1)) = nI (t.val &&& (255 - 2 ^ q.val)) := by decide +kernel
theorem th_bit : ∀ t : Fin 256, ∀ q : Fin 8, (nI t.val >>> (nI q.val &&& 31)) &&& nI 1 = nI (t.val / 2 ^ q.val % 2) := by decide +kernel
theorem th_lt : ∀ t : Fin 256, ∀ q : Fin 8, (t.val ||| 2 ^ q.val) < 256 ∧ (t.val &&& (255 - 2 ^ q.val)) < 256 := by decide +kernel
/-- how many of the first n -/
def cntN (f : Nat → Bool) : Nat → Nat
  | 0 => 0
  | n + 1 => cntN f n + (if f n then 1 else 0)
theorem cntN_le (f : Nat → Bool) (n : Nat) : cntN f n ≤ n := by
  induction n with
  | zero => exact Nat.le_refl 0
  | succ n ih => unfold cntN; split <;> omega
theorem bI_zo (b : Bool) : (bI b = 0 ∨ bI b = 1) = True := eq_true (by cases b <;> decide)
