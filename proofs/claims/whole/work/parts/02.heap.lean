/-! THE ABSTRACT HEAP: the kind of each cell, int and reference fields by class, field and address, arrays by kind and address -/
abbrev gHp : Type := (Nat → Nat) × (Nat → Nat → Nat → Int32) × (Nat → Nat → Nat → Option Nat) × (Nat → Nat) × (Nat → Nat → Nat → Int32) × (Nat → Nat → Nat → Int64) × (Nat → Nat → Option Nat)
def hK (h : gHp) : Nat → Nat := h.1
def hI (h : gHp) : Nat → Nat → Nat → Int32 := h.2.1
def hR (h : gHp) : Nat → Nat → Nat → Option Nat := h.2.2.1
def hN (h : gHp) : Nat → Nat := h.2.2.2.1
def hA (h : gHp) : Nat → Nat → Nat → Int32 := h.2.2.2.2.1
def hJ (h : gHp) : Nat → Nat → Nat → Int64 := h.2.2.2.2.2.1
def hO (h : gHp) : Nat → Nat → Option Nat := h.2.2.2.2.2.2
def up3 {α : Type} (f : Nat → Nat → Nat → α) (c k a : Nat) (v : α) : Nat → Nat → Nat → α := fun c' k' a' => if c' = c ∧ k' = k ∧ a' = a then v else f c' k' a'
def up2 {α : Type} (f : Nat → Nat → α) (t a : Nat) (v : α) : Nat → Nat → α := fun t' a' => if t' = t ∧ a' = a then v else f t' a'
/-- writes -/
def sI (h : gHp) (c k a : Nat) (v : Int32) : gHp := (hK h, up3 (hI h) c k a v, hR h, hN h, hA h, hJ h, hO h)
def sR (h : gHp) (c k a : Nat) (v : Option Nat) : gHp := (hK h, hI h, up3 (hR h) c k a v, hN h, hA h, hJ h, hO h)
def sA (h : gHp) (t a : Nat) (f : Nat → Int32) : gHp := (hK h, hI h, hR h, hN h, up2 (hA h) t a f, hJ h, hO h)
def sJ (h : gHp) (t a : Nat) (f : Nat → Int64) : gHp := (hK h, hI h, hR h, hN h, hA h, up2 (hJ h) t a f, hO h)
def sO (h : gHp) (a : Nat) (f : Nat → Option Nat) : gHp := (hK h, hI h, hR h, hN h, hA h, hJ h, va_up (hO h) a f)
/-- a new object of class c, a new array of kind t and length n -/
def nO (h : gHp) (c a : Nat) : gHp := (va_up (hK h) a (c + 1), (fun c' k' a' => if c' = c ∧ a' = a then 0 else hI h c' k' a'), (fun c' k' a' => if c' = c ∧ a' = a then none else hR h c' k' a'), hN h, hA h, hJ h, hO h)
def nA (h : gHp) (t a n : Nat) : gHp := (va_up (hK h) a t, hI h, hR h, va_up (hN h) a n, up2 (hA h) t a (fun _ => 0), up2 (hJ h) t a (fun _ => 0), va_up (hO h) a (fun _ => none))
section Proj
variable (h : gHp) (c k a t n : Nat) (v : Int32) (r : Option Nat) (f : Nat → Int32) (g : Nat → Int64) (o : Nat → Option Nat)
theorem hK_sI : hK (sI h c k a v) = hK h := rfl
theorem hK_sR : hK (sR h c k a r) = hK h := rfl
theorem hK_sA : hK (sA h t a f) = hK h := rfl
theorem hK_sJ : hK (sJ h t a g) = hK h := rfl
theorem hK_sO : hK (sO h a o) = hK h := rfl
theorem hK_nO : hK (nO h c a) = va_up (hK h) a (c + 1) := rfl
theorem hK_nA : hK (nA h t a n) = va_up (hK h) a t := rfl
theorem hI_sI : hI (sI h c k a v) = up3 (hI h) c k a v := rfl
theorem hI_sR : hI (sR h c k a r) = hI h := rfl
theorem hI_sA : hI (sA h t a f) = hI h := rfl
theorem hI_sJ : hI (sJ h t a g) = hI h := rfl
theorem hI_sO : hI (sO h a o) = hI h := rfl
theorem hI_nO : hI (nO h c a) = (fun c' k' a' => if c' = c ∧ a' = a then 0 else hI h c' k' a') := rfl
theorem hI_nA : hI (nA h t a n) = hI h := rfl
theorem hR_sI : hR (sI h c k a v) = hR h := rfl
theorem hR_sR : hR (sR h c k a r) = up3 (hR h) c k a r := rfl
theorem hR_sA : hR (sA h t a f) = hR h := rfl
theorem hR_sJ : hR (sJ h t a g) = hR h := rfl
theorem hR_sO : hR (sO h a o) = hR h := rfl
theorem hR_nO : hR (nO h c a) = (fun c' k' a' => if c' = c ∧ a' = a then none else hR h c' k' a') := rfl
theorem hR_nA : hR (nA h t a n) = hR h := rfl
theorem hN_sI : hN (sI h c k a v) = hN h := rfl
theorem hN_sR : hN (sR h c k a r) = hN h := rfl
theorem hN_sA : hN (sA h t a f) = hN h := rfl
theorem hN_sJ : hN (sJ h t a g) = hN h := rfl
theorem hN_sO : hN (sO h a o) = hN h := rfl
theorem hN_nO : hN (nO h c a) = hN h := rfl
theorem hN_nA : hN (nA h t a n) = va_up (hN h) a n := rfl
theorem hA_sI : hA (sI h c k a v) = hA h := rfl
theorem hA_sR : hA (sR h c k a r) = hA h := rfl
theorem hA_sA : hA (sA h t a f) = up2 (hA h) t a f := rfl
theorem hA_sJ : hA (sJ h t a g) = hA h := rfl
theorem hA_sO : hA (sO h a o) = hA h := rfl
theorem hA_nO : hA (nO h c a) = hA h := rfl
theorem hA_nA : hA (nA h t a n) = up2 (hA h) t a (fun _ => 0) := rfl
theorem hJ_sI : hJ (sI h c k a v) = hJ h := rfl
theorem hJ_sR : hJ (sR h c k a r) = hJ h := rfl
theorem hJ_sA : hJ (sA h t a f) = hJ h := rfl
theorem hJ_sJ : hJ (sJ h t a g) = up2 (hJ h) t a g := rfl
theorem hJ_sO : hJ (sO h a o) = hJ h := rfl
theorem hJ_nO : hJ (nO h c a) = hJ h := rfl
theorem hJ_nA : hJ (nA h t a n) = up2 (hJ h) t a (fun _ => 0) := rfl
theorem hO_sI : hO (sI h c k a v) = hO h := rfl
theorem hO_sR : hO (sR h c k a r) = hO h := rfl
theorem hO_sA : hO (sA h t a f) = hO h := rfl
theorem hO_sJ : hO (sJ h t a g) = hO h := rfl
theorem hO_sO : hO (sO h a o) = va_up (hO h) a o := rfl
theorem hO_nO : hO (nO h c a) = hO h := rfl
theorem hO_nA : hO (nA h t a n) = va_up (hO h) a (fun _ => none) := rfl
end Proj
theorem up3_eq {α : Type} (f : Nat → Nat → Nat → α) (c k a : Nat) (v : α) (c' k' a' : Nat) : up3 f c k a v c' k' a' = if c' = c ∧ k' = k ∧ a' = a then v else f c' k' a' := rfl
theorem up2_eq {α : Type} (f : Nat → Nat → α) (t a : Nat) (v : α) (t' a' : Nat) : up2 f t a v t' a' = if t' = t ∧ a' = a then v else f t' a' := rfl
theorem va_up_eq {α : Type} (f : Nat → α) (a : Nat) (v : α) (b : Nat) : va_up f a v b = if b = a then v else f b := rfl
/-- number of fields of each class of vwCl; which are references -/
def gNf : List Nat := [3, 12, 5, 3, 6, 5, 6, 4, 9, 14, 64]
def gRefs : List (List Nat) := [[1], [5], [4], [1, 2], [3], [0, 1], [1, 2, 3, 5], [0, 2, 3], [1, 6, 7, 8], [1, 3, 5, 6, 7, 8, 9, 11, 12, 13], [1, 4, 5, 6, 9, 10, 11, 12, 13, 14, 19, 20, 21, 22, 23, 26, 28, 29, 30, 32, 33, 34, 35, 37, 38, 39, 40, 41, 42, 43, 45, 47, 48, 49, 50, 51, 52, 53, 54, 55, 56, 58, 59, 60, 61, 62, 63]]
def gIsR (c k : Nat) : Bool := (gRefs.getD c []).contains k
def gFv (h : gHp) (c a k : Nat) : Value := if gIsR c k then va_rf (hR h c k a) else .int (hI h c k a)
def gFl (h : gHp) (c a : Nat) : List Value := (List.range (gNf.getD c 0)).map (gFv h c a)
/-- the cell at an address -/
def gCell (kA : Nat → ClassId) (h : gHp) (a : Nat) : va_E :=
  if hK h a = 12 ∨ hK h a = 112 then .inl (kA 0, hN h a, .inl (hA h (hK h a) a))
  else if hK h a = 14 ∨ hK h a = 114 then .inl (kA 2, hN h a, .inl (hA h (hK h a) a))
  else if hK h a = 15 then .inl (kA 3, hN h a, .inl (hA h (hK h a) a))
  else if hK h a = 13 ∨ hK h a = 113 then .inl (kA 1, hN h a, .inr (.inl (hJ h (hK h a) a)))
  else if hK h a = 16 then .inl (kA 4, hN h a, .inr (.inr (.inr (.inr (hO h a)))))
  else .inr (hK h a - 1, gFl h (hK h a - 1) a)
theorem gCell_o {kA : Nat → ClassId} {h : gHp} {a c : Nat} (hk : hK h a = c + 1) (hc : c < 11) : gCell kA h a = .inr (c, gFl h c a) := by
  unfold gCell
  rw [hk]
  rw [if_neg (by omega), if_neg (by omega), if_neg (by omega), if_neg (by omega), if_neg (by omega)]
  rfl
theorem gCell_i {kA : Nat → ClassId} {h : gHp} {a t : Nat} (hk : hK h a = t) (ht : t = 12 ∨ t = 112) : gCell kA h a = .inl (kA 0, hN h a, .inl (hA h t a)) := by
  unfold gCell
  rw [hk, if_pos ht]
theorem gCell_z {kA : Nat → ClassId} {h : gHp} {a t : Nat} (hk : hK h a = t) (ht : t = 14 ∨ t = 114) : gCell kA h a = .inl (kA 2, hN h a, .inl (hA h t a)) := by
  unfold gCell
  rw [hk, if_neg (by omega), if_pos ht]
theorem gCell_c {kA : Nat → ClassId} {h : gHp} {a t : Nat} (hk : hK h a = t) (ht : t = 15) : gCell kA h a = .inl (kA 3, hN h a, .inl (hA h t a)) := by
  unfold gCell
  rw [hk, if_neg (by omega), if_neg (by omega), if_pos ht]
theorem gCell_j {kA : Nat → ClassId} {h : gHp} {a t : Nat} (hk : hK h a = t) (ht : t = 13 ∨ t = 113) : gCell kA h a = .inl (kA 1, hN h a, .inr (.inl (hJ h t a))) := by
  unfold gCell
  rw [hk, if_neg (by omega), if_neg (by omega), if_neg (by omega), if_pos ht]
theorem gCell_q {kA : Nat → ClassId} {h : gHp} {a : Nat} (hk : hK h a = 16) : gCell kA h a = .inl (kA 4, hN h a, .inr (.inr (.inr (.inr (hO h a))))) := by
  unfold gCell
  rw [hk, if_neg (by omega), if_neg (by omega), if_neg (by omega), if_neg (by omega), if_pos rfl]
theorem gFl_at {h : gHp} {c a k : Nat} (hk : k < gNf.getD c 0) : (gFl h c a)[k]? = some (gFv h c a k) := by
  unfold gFl
  rw [List.getElem?_map, List.getElem?_range hk]
  rfl
theorem gFl_len {h : gHp} {c a : Nat} : (gFl h c a).length = gNf.getD c 0 := by simp [gFl]
theorem gFl_set {h h' : gHp} {c a k : Nat} {v : Value} (hv : k < gNf.getD c 0 → gFv h' c a k = v) (ho : ∀ j, j ≠ k → gFv h' c a j = gFv h c a j) : (gFl h c a).set k v = gFl h' c a := by
  apply List.ext_getElem?
  intro j
  by_cases hj : j < gNf.getD c 0
  · rw [gFl_at hj]
    by_cases hjk : j = k
    · subst hjk
      rw [List.getElem?_set_self (by rw [gFl_len]; exact hj), hv hj]
    · rw [List.getElem?_set_ne (fun e => hjk e.symm), gFl_at hj, ho j hjk]
  · rw [List.getElem?_eq_none (by rw [List.length_set, gFl_len]; omega), List.getElem?_eq_none (by rw [gFl_len]; omega)]
theorem gFl_congr {h h' : gHp} {c a : Nat} (ho : ∀ j, gFv h' c a j = gFv h c a j) : gFl h' c a = gFl h c a := by
  unfold gFl
  exact List.map_congr_left (fun j _ => ho j)
/-- a write at a cell is a write of the heap -/
theorem gCell_sI {kA : Nat → ClassId} {h : gHp} {a c k : Nat} {v : Int32} (hk : hK h a = c + 1) (hc : c < 11) (hr : gIsR c k = false) : va_up (gCell kA h) a (.inr (c, (gFl h c a).set k (.int v))) = gCell kA (sI h c k a v) := by
  funext b
  by_cases hb : b = a
  · subst hb
    rw [va_up_eq, if_pos rfl, gCell_o (h := sI h c k b v) (by rw [hK_sI]; exact hk) hc]
    rw [gFl_set (h' := sI h c k b v)]
    · intro _; simp [gFv, hr, hI_sI, up3]
    · intro j hj; simp [gFv, hI_sI, hR_sI, up3, hj]
  · rw [va_up_eq, if_neg hb]
    have : ∀ c', gFl (sI h c k a v) c' b = gFl h c' b := fun c' => gFl_congr (fun j => by simp [gFv, hI_sI, hR_sI, up3, hb])
    unfold gCell
    rw [this]; rfl
theorem gCell_sR {kA : Nat → ClassId} {h : gHp} {a c k : Nat} {v : Option Nat} (hk : hK h a = c + 1) (hc : c < 11) (hr : gIsR c k = true) : va_up (gCell kA h) a (.inr (c, (gFl h c a).set k (va_rf v))) = gCell kA (sR h c k a v) := by
  funext b
  by_cases hb : b = a
  · subst hb
    rw [va_up_eq, if_pos rfl, gCell_o (h := sR h c k b v) (by rw [hK_sR]; exact hk) hc]
    rw [gFl_set (h' := sR h c k b v)]
    · intro _; simp [gFv, hr, hR_sR, up3]
    · intro j hj; simp [gFv, hI_sR, hR_sR, up3, hj]
  · rw [va_up_eq, if_neg hb]
    have : ∀ c', gFl (sR h c k a v) c' b = gFl h c' b := fun c' => gFl_congr (fun j => by simp [gFv, hI_sR, hR_sR, up3, hb])
    unfold gCell
    rw [this]; rfl
theorem gCell_sA {kA : Nat → ClassId} {h : gHp} {a t : Nat} {f : Nat → Int32} (hk : hK h a = t) (b : Nat) : b ≠ a → gCell kA (sA h t a f) b = gCell kA h b := by
  intro hb
  have : ∀ c', gFl (sA h t a f) c' b = gFl h c' b := fun c' => gFl_congr (fun j => by simp [gFv, hI_sA, hR_sA])
  unfold gCell
  rw [this]; simp [hK_sA, hN_sA, hA_sA, hJ_sA, hO_sA, up2, hb]; rfl
theorem gCell_sJ {kA : Nat → ClassId} {h : gHp} {a t : Nat} {f : Nat → Int64} (b : Nat) : b ≠ a → gCell kA (sJ h t a f) b = gCell kA h b := by
  intro hb
  have : ∀ c', gFl (sJ h t a f) c' b = gFl h c' b := fun c' => gFl_congr (fun j => by simp [gFv, hI_sJ, hR_sJ])
  unfold gCell
  rw [this]; simp [hK_sJ, hN_sJ, hA_sJ, hJ_sJ, hO_sJ, up2, hb]; rfl
theorem gCell_sO {kA : Nat → ClassId} {h : gHp} {a : Nat} {f : Nat → Option Nat} (b : Nat) : b ≠ a → gCell kA (sO h a f) b = gCell kA h b := by
  intro hb
  have : ∀ c', gFl (sO h a f) c' b = gFl h c' b := fun c' => gFl_congr (fun j => by simp [gFv, hI_sO, hR_sO])
  unfold gCell
  rw [this]; simp [hK_sO, hN_sO, hA_sO, hJ_sO, hO_sO, va_up_eq, hb]
theorem gCell_nO {kA : Nat → ClassId} {h : gHp} {a c : Nat} (b : Nat) : b ≠ a → gCell kA (nO h c a) b = gCell kA h b := by
  intro hb
  have : ∀ c', gFl (nO h c a) c' b = gFl h c' b := fun c' => gFl_congr (fun j => by simp [gFv, hI_nO, hR_nO, hb])
  unfold gCell
  rw [this]; simp [hK_nO, hN_nO, hA_nO, hJ_nO, hO_nO, va_up_eq, hb]
theorem gCell_nA {kA : Nat → ClassId} {h : gHp} {a t n : Nat} (b : Nat) : b ≠ a → gCell kA (nA h t a n) b = gCell kA h b := by
  intro hb
  have : ∀ c', gFl (nA h t a n) c' b = gFl h c' b := fun c' => gFl_congr (fun j => by simp [gFv, hI_nA, hR_nA])
  unfold gCell
  rw [this]; simp [hK_nA, hN_nA, hA_nA, hJ_nA, hO_nA, va_up_eq, up2, hb]
theorem gCell_up {kA : Nat → ClassId} {h h' : gHp} {a : Nat} {e : va_E} (he : gCell kA h' a = e) (ho : ∀ b, b ≠ a → gCell kA h' b = gCell kA h b) : va_up (gCell kA h) a e = gCell kA h' := by
  funext b
  by_cases hb : b = a
  · subst hb; rw [va_up_eq, if_pos rfl, he]
  · rw [va_up_eq, if_neg hb, ho b hb]
