/-! rows for reading conditions, and THE REFERENCE's object: x its address, xa k the array in field k -/
theorem gAx {B : gB} {m : gM} {d : Nat} {cut : List (Nat × List Nat)} {Q : Option Value → gHp → Prop} (hok : (gTb m).all (okE gF gNM m) = true) (k : Nat) {c n pc : Nat} {lv : List (Nat × Value)} {st : List Value} {h : gHp} (hs : ax gF B m d cut Q k c n pc lv st h) : gG B m (d + 1) c n pc lv st h Q :=
  ax_sound (fun r hr hk => okMb_V (gMs_at hr) hk) (fun r hr hk => okMb_S (gMs_at hr) hk) (fun r hr hk => okMb_I (gMs_at hr) hk) gObj_in hok k hs
theorem gStartX {B : gB} {m : gM} {d : Nat} {cut : List (Nat × List Nat)} {Q : Option Value → gHp → Prop} {args : List Value} {h : gHp} {c n : Nat} (hy : plainName (gY m).cls = true) (hok : (gTb m).all (okE gF gNM m) = true) (hl : (lg_sl args).length ≤ gL m) (k : Nat) (hs : ax gF B m d cut Q k c n 0 (lv_args 0 args) [] h) : gFn B m (d + 1) c n args h Q :=
  gFn_of hy hl (gAx hok k hs)
theorem fv0 : ((0 : Fin 4) : Nat) = 0 := rfl
theorem fv1 : ((1 : Fin 4) : Nat) = 1 := rfl
theorem fv2 : ((2 : Fin 4) : Nat) = 2 := rfl
theorem fv3 : ((3 : Fin 4) : Nat) = 3 := rfl
theorem va_rf_s (a : Nat) : va_rf (some a) = .ref a := rfl
theorem va_rf_n : va_rf none = .null := rfl
theorem gFilter_nil {α : Type} (p : α → Bool) : List.filter p [] = [] := rfl
theorem gFilter_cons {α : Type} (p : α → Bool) (a : α) (l : List α) : List.filter p (a :: l) = if p a = true then a :: List.filter p l else List.filter p l := by
  simp only [List.filter_cons]
theorem gL1 (x : Int32) : Value.category (.int x) = 1 := rfl
theorem gL2 (x : Int64) : Value.category (.long x) = 2 := rfl
theorem gL3 (x : Nat) : Value.category (.ref x) = 1 := rfl
theorem gL4 : Value.category .null = 1 := rfl
theorem gL5 (r : Option Nat) : Value.category (va_rf r) = 1 := by cases r <;> rfl
theorem gL6 (x : Int32) (l : List Value) : ((Value.int x :: l).map fun v => v.category) = 1 :: (l.map fun v => v.category) := rfl
def bI (b : Bool) : Int32 := if b then 1 else 0
def rKs : List Nat := [0, 112, 0, 0, 112, 112, 113, 0, 0, 113, 112, 112, 112, 112, 112, 0, 0, 0, 0, 112, 112, 112, 112, 112, 0, 0, 112, 0, 112, 112, 112, 0, 112, 112, 112, 112, 0, 112, 114, 112, 112, 112, 112, 114, 0, 112, 0, 112, 112, 112, 112, 112, 112, 112, 112, 114, 114, 0, 112, 112, 112, 112, 114, 114]
def rNs : List Nat := [0, 600, 0, 0, 602, 602, 602, 0, 0, 8, 2, 32, 32, 1320, 1320, 0, 0, 0, 0, 7, 7, 7, 5, 660, 0, 0, 20, 0, 40, 40, 40, 0, 120, 120, 120, 1440, 0, 120, 120, 120, 480, 480, 480, 8, 0, 12, 0, 20, 20, 20, 20, 80, 20, 20, 20, 100000, 2400, 0, 300, 300, 300, 3600, 40, 120]
def rK (k : Nat) : Nat := rKs.getD k 0
def rN (k : Nat) : Nat := rNs.getD k 0
def RW (x : Nat) (xa : Nat → Nat) (h : gHp) : Prop := hK h x = 11 ∧ (∀ k, gIsR 10 k = true → hR h 10 k x = some (xa k)) ∧ (∀ k, gIsR 10 k = true → hK h (xa k) = rK k) ∧ (∀ k, gIsR 10 k = true → hN h (xa k) = rN k) ∧ (∀ i j, gIsR 10 i = true → gIsR 10 j = true → (xa i = xa j ↔ i = j))
theorem ir_1 : gIsR 10 1 = true := rfl
theorem rK_1 : rK 1 = 112 := rfl
theorem rN_1 : rN 1 = 600 := rfl
theorem ir_4 : gIsR 10 4 = true := rfl
theorem rK_4 : rK 4 = 112 := rfl
theorem rN_4 : rN 4 = 602 := rfl
theorem ir_5 : gIsR 10 5 = true := rfl
theorem rK_5 : rK 5 = 112 := rfl
theorem rN_5 : rN 5 = 602 := rfl
theorem ir_6 : gIsR 10 6 = true := rfl
theorem rK_6 : rK 6 = 113 := rfl
theorem rN_6 : rN 6 = 602 := rfl
theorem ir_9 : gIsR 10 9 = true := rfl
theorem rK_9 : rK 9 = 113 := rfl
theorem rN_9 : rN 9 = 8 := rfl
theorem ir_10 : gIsR 10 10 = true := rfl
theorem rK_10 : rK 10 = 112 := rfl
theorem rN_10 : rN 10 = 2 := rfl
theorem ir_11 : gIsR 10 11 = true := rfl
theorem rK_11 : rK 11 = 112 := rfl
theorem rN_11 : rN 11 = 32 := rfl
theorem ir_12 : gIsR 10 12 = true := rfl
theorem rK_12 : rK 12 = 112 := rfl
theorem rN_12 : rN 12 = 32 := rfl
theorem ir_13 : gIsR 10 13 = true := rfl
theorem rK_13 : rK 13 = 112 := rfl
theorem rN_13 : rN 13 = 1320 := rfl
theorem ir_14 : gIsR 10 14 = true := rfl
theorem rK_14 : rK 14 = 112 := rfl
theorem rN_14 : rN 14 = 1320 := rfl
theorem ir_19 : gIsR 10 19 = true := rfl
theorem rK_19 : rK 19 = 112 := rfl
theorem rN_19 : rN 19 = 7 := rfl
theorem ir_20 : gIsR 10 20 = true := rfl
theorem rK_20 : rK 20 = 112 := rfl
theorem rN_20 : rN 20 = 7 := rfl
theorem ir_21 : gIsR 10 21 = true := rfl
theorem rK_21 : rK 21 = 112 := rfl
theorem rN_21 : rN 21 = 7 := rfl
theorem ir_22 : gIsR 10 22 = true := rfl
theorem rK_22 : rK 22 = 112 := rfl
theorem rN_22 : rN 22 = 5 := rfl
theorem ir_23 : gIsR 10 23 = true := rfl
theorem rK_23 : rK 23 = 112 := rfl
theorem rN_23 : rN 23 = 660 := rfl
theorem ir_26 : gIsR 10 26 = true := rfl
theorem rK_26 : rK 26 = 112 := rfl
theorem rN_26 : rN 26 = 20 := rfl
theorem ir_28 : gIsR 10 28 = true := rfl
theorem rK_28 : rK 28 = 112 := rfl
theorem rN_28 : rN 28 = 40 := rfl
theorem ir_29 : gIsR 10 29 = true := rfl
theorem rK_29 : rK 29 = 112 := rfl
theorem rN_29 : rN 29 = 40 := rfl
theorem ir_30 : gIsR 10 30 = true := rfl
theorem rK_30 : rK 30 = 112 := rfl
theorem rN_30 : rN 30 = 40 := rfl
theorem ir_32 : gIsR 10 32 = true := rfl
theorem rK_32 : rK 32 = 112 := rfl
theorem rN_32 : rN 32 = 120 := rfl
theorem ir_33 : gIsR 10 33 = true := rfl
theorem rK_33 : rK 33 = 112 := rfl
theorem rN_33 : rN 33 = 120 := rfl
theorem ir_34 : gIsR 10 34 = true := rfl
theorem rK_34 : rK 34 = 112 := rfl
theorem rN_34 : rN 34 = 120 := rfl
theorem ir_35 : gIsR 10 35 = true := rfl
theorem rK_35 : rK 35 = 112 := rfl
theorem rN_35 : rN 35 = 1440 := rfl
theorem ir_37 : gIsR 10 37 = true := rfl
theorem rK_37 : rK 37 = 112 := rfl
theorem rN_37 : rN 37 = 120 := rfl
theorem ir_38 : gIsR 10 38 = true := rfl
theorem rK_38 : rK 38 = 114 := rfl
theorem rN_38 : rN 38 = 120 := rfl
theorem ir_39 : gIsR 10 39 = true := rfl
theorem rK_39 : rK 39 = 112 := rfl
theorem rN_39 : rN 39 = 120 := rfl
theorem ir_40 : gIsR 10 40 = true := rfl
theorem rK_40 : rK 40 = 112 := rfl
theorem rN_40 : rN 40 = 480 := rfl
theorem ir_41 : gIsR 10 41 = true := rfl
theorem rK_41 : rK 41 = 112 := rfl
theorem rN_41 : rN 41 = 480 := rfl
theorem ir_42 : gIsR 10 42 = true := rfl
theorem rK_42 : rK 42 = 112 := rfl
theorem rN_42 : rN 42 = 480 := rfl
theorem ir_43 : gIsR 10 43 = true := rfl
theorem rK_43 : rK 43 = 114 := rfl
theorem rN_43 : rN 43 = 8 := rfl
theorem ir_45 : gIsR 10 45 = true := rfl
theorem rK_45 : rK 45 = 112 := rfl
theorem rN_45 : rN 45 = 12 := rfl
theorem ir_47 : gIsR 10 47 = true := rfl
theorem rK_47 : rK 47 = 112 := rfl
theorem rN_47 : rN 47 = 20 := rfl
theorem ir_48 : gIsR 10 48 = true := rfl
theorem rK_48 : rK 48 = 112 := rfl
theorem rN_48 : rN 48 = 20 := rfl
theorem ir_49 : gIsR 10 49 = true := rfl
theorem rK_49 : rK 49 = 112 := rfl
theorem rN_49 : rN 49 = 20 := rfl
theorem ir_50 : gIsR 10 50 = true := rfl
theorem rK_50 : rK 50 = 112 := rfl
theorem rN_50 : rN 50 = 20 := rfl
theorem ir_51 : gIsR 10 51 = true := rfl
theorem rK_51 : rK 51 = 112 := rfl
theorem rN_51 : rN 51 = 80 := rfl
theorem ir_52 : gIsR 10 52 = true := rfl
theorem rK_52 : rK 52 = 112 := rfl
theorem rN_52 : rN 52 = 20 := rfl
theorem ir_53 : gIsR 10 53 = true := rfl
theorem rK_53 : rK 53 = 112 := rfl
theorem rN_53 : rN 53 = 20 := rfl
theorem ir_54 : gIsR 10 54 = true := rfl
theorem rK_54 : rK 54 = 112 := rfl
theorem rN_54 : rN 54 = 20 := rfl
theorem ir_55 : gIsR 10 55 = true := rfl
theorem rK_55 : rK 55 = 114 := rfl
theorem rN_55 : rN 55 = 100000 := rfl
theorem ir_56 : gIsR 10 56 = true := rfl
theorem rK_56 : rK 56 = 114 := rfl
theorem rN_56 : rN 56 = 2400 := rfl
theorem ir_58 : gIsR 10 58 = true := rfl
theorem rK_58 : rK 58 = 112 := rfl
theorem rN_58 : rN 58 = 300 := rfl
theorem ir_59 : gIsR 10 59 = true := rfl
theorem rK_59 : rK 59 = 112 := rfl
theorem rN_59 : rN 59 = 300 := rfl
theorem ir_60 : gIsR 10 60 = true := rfl
theorem rK_60 : rK 60 = 112 := rfl
theorem rN_60 : rN 60 = 300 := rfl
theorem ir_61 : gIsR 10 61 = true := rfl
theorem rK_61 : rK 61 = 112 := rfl
theorem rN_61 : rN 61 = 3600 := rfl
theorem ir_62 : gIsR 10 62 = true := rfl
theorem rK_62 : rK 62 = 114 := rfl
theorem rN_62 : rN 62 = 40 := rfl
theorem ir_63 : gIsR 10 63 = true := rfl
theorem rK_63 : rK 63 = 114 := rfl
theorem rN_63 : rN 63 = 120 := rfl
