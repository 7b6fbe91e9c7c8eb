/-! RULES OF gG, an instruction each -/
/-- locals: read, and a store that keeps the order of places -/
def lvGet : List (Nat × Value) → Nat → Option Value
  | [], _ => none
  | q :: l, i => if q.1 = i then some q.2 else lvGet l i
def lvIns (i : Nat) (v : Value) : List (Nat × Value) → List (Nat × Value)
  | [] => [(i, v)]
  | q :: l => if i < q.1 then (i, v) :: q :: l else q :: lvIns i v l
def lvSet1 (lv : List (Nat × Value)) (i : Nat) (v : Value) : List (Nat × Value) := lvIns i v (lv.filter (fun q => !(q.1 == i) && !(q.1 + 1 == i && q.2.category == 2)))
def lvSet2 (lv : List (Nat × Value)) (i : Nat) (v : Value) : List (Nat × Value) := lvIns i v (lv.filter (fun q => !(q.1 == i) && (!(q.1 == i + 1) && !(q.1 + 1 == i && q.2.category == 2))))
theorem lvIns_mem {i : Nat} {v : Value} {l : List (Nat × Value)} {q : Nat × Value} (h : q ∈ lvIns i v l) : q ∈ (i, v) :: l := by
  induction l with
  | nil => exact h
  | cons x l ih =>
    unfold lvIns at h
    split at h
    · exact h
    · rcases List.mem_cons.mp h with h | h
      · simp [h]
      · rcases List.mem_cons.mp (ih h) with h | h
        · simp [h]
        · simp [h]
theorem lvSet_has {ls : Array Slot} {nL i : Nat} {v : Value} {l : List (Nat × Value)} (h : lv_has ls nL ((i, v) :: l)) : lv_has ls nL (lvIns i v l) := ⟨h.1, h.2.1, fun q hq => h.2.2 q (lvIns_mem hq)⟩
theorem lvGet_at {ls : Array Slot} {nL i : Nat} {v : Value} {lv : List (Nat × Value)} (h : lv_has ls nL lv) (hg : lvGet lv i = some v) : ls[i]? = some (.val v) := by
  obtain ⟨h1, h2, h3⟩ := h
  clear h1 h2
  induction lv with
  | nil => cases hg
  | cons q l ih =>
    unfold lvGet at hg
    split at hg
    · rename_i e
      cases hg
      subst e
      exact h3 q List.mem_cons_self
    · exact ih hg (fun x hx => h3 x (List.mem_cons_of_mem _ hx))
theorem lvGet_mem {i : Nat} {v : Value} {lv : List (Nat × Value)} (hg : lvGet lv i = some v) : ∃ k : Nat, lv[k]? = some (i, v) := by
  induction lv with
  | nil => cases hg
  | cons q l ih =>
    unfold lvGet at hg
    split at hg
    · rename_i e
      cases hg
      subst e
      exact ⟨0, rfl⟩
    · obtain ⟨k, hk⟩ := ih hg
      exact ⟨k + 1, hk⟩
section GR
variable {B : gB} {m : gM} {d c n pc : Nat} {lv : List (Nat × Value)} {st : List Value} {h : gHp} {Q : Option Value → gHp → Prop}
theorem gG_iconst {k : Int} {v : Int32} (hdg : decode (gCd m) pc = .ok (.iconst k, 1)) (hv : Int32.ofInt k = v) (kk : gG B m d c n (pc + 1) lv (.int v :: st) h Q) : gG B m d c n pc lv (st) h Q := by
  intro p e s mi args below meth cd H locs cells slots ls C R S hl
  exact lv_iconst C.1 C.2.1 hdg hv (kk p e s mi args below meth cd H locs cells slots ls C R S hl)
theorem gG_bipush {k : Int} {v : Int32} (hdg : decode (gCd m) pc = .ok (.bipush k, 2)) (hv : (Int8.ofInt k).toInt32 = v) (kk : gG B m d c n (pc + 2) lv (.int v :: st) h Q) : gG B m d c n pc lv (st) h Q := by
  intro p e s mi args below meth cd H locs cells slots ls C R S hl
  exact lv_bipush C.1 C.2.1 hdg hv (kk p e s mi args below meth cd H locs cells slots ls C R S hl)
theorem gG_sipush {k : Int} {v : Int32} (hdg : decode (gCd m) pc = .ok (.sipush k, 3)) (hv : (Int16.ofInt k).toInt32 = v) (kk : gG B m d c n (pc + 3) lv (.int v :: st) h Q) : gG B m d c n pc lv (st) h Q := by
  intro p e s mi args below meth cd H locs cells slots ls C R S hl
  exact lv_sipush C.1 C.2.1 hdg hv (kk p e s mi args below meth cd H locs cells slots ls C R S hl)
theorem gG_lconst {k : Fin 2} {v : Int64} (hdg : decode (gCd m) pc = .ok (.lconst k, 1)) (hv : Int64.ofNat (k : Nat) = v) (kk : gG B m d c n (pc + 1) lv (.long v :: st) h Q) : gG B m d c n pc lv (st) h Q := by
  intro p e s mi args below meth cd H locs cells slots ls C R S hl
  exact lv_lconst C.1 C.2.1 hdg hv (kk p e s mi args below meth cd H locs cells slots ls C R S hl)
theorem gG_null  (hdg : decode (gCd m) pc = .ok (.aconst_null, 1))  (kk : gG B m d c n (pc + 1) lv (.null :: st) h Q) : gG B m d c n pc lv (st) h Q := by
  intro p e s mi args below meth cd H locs cells slots ls C R S hl
  exact lv_null C.1 C.2.1 hdg  (kk p e s mi args below meth cd H locs cells slots ls C R S hl)
theorem gG_iload_n {k : Fin 4} {x : Int32} (hdg : decode (gCd m) pc = .ok (.iload_n k, 1)) (hg : lvGet lv k.val = some (.int x)) (kk : gG B m d c n (pc + 1) lv (.int x :: st) h Q) : gG B m d c n pc lv (st) h Q := by
  intro p e s mi args below meth cd H locs cells slots ls C R S hl
  exact lv_iload_n C.1 C.2.1 hdg rfl (lvGet_at hl hg) (kk p e s mi args below meth cd H locs cells slots ls C R S hl)
theorem gG_iload {i : Nat} {x : Int32} (hdg : decode (gCd m) pc = .ok (.iload i, 2)) (hg : lvGet lv i = some (.int x)) (kk : gG B m d c n (pc + 2) lv (.int x :: st) h Q) : gG B m d c n pc lv (st) h Q := by
  intro p e s mi args below meth cd H locs cells slots ls C R S hl
  exact lv_iload C.1 C.2.1 hdg (lvGet_at hl hg) (kk p e s mi args below meth cd H locs cells slots ls C R S hl)
theorem gG_lload_n {k : Fin 4} {x : Int64} (hdg : decode (gCd m) pc = .ok (.lload_n k, 1)) (hg : lvGet lv k.val = some (.long x)) (kk : gG B m d c n (pc + 1) lv (.long x :: st) h Q) : gG B m d c n pc lv (st) h Q := by
  intro p e s mi args below meth cd H locs cells slots ls C R S hl
  exact lv_lload_n C.1 C.2.1 hdg rfl (lvGet_at hl hg) (kk p e s mi args below meth cd H locs cells slots ls C R S hl)
theorem gG_lload {i : Nat} {x : Int64} (hdg : decode (gCd m) pc = .ok (.lload i, 2)) (hg : lvGet lv i = some (.long x)) (kk : gG B m d c n (pc + 2) lv (.long x :: st) h Q) : gG B m d c n pc lv (st) h Q := by
  intro p e s mi args below meth cd H locs cells slots ls C R S hl
  exact lv_lload C.1 C.2.1 hdg (lvGet_at hl hg) (kk p e s mi args below meth cd H locs cells slots ls C R S hl)
theorem gG_aload_nR {k : Fin 4} {x : Nat} (hdg : decode (gCd m) pc = .ok (.aload_n k, 1)) (hg : lvGet lv k.val = some (.ref x)) (kk : gG B m d c n (pc + 1) lv (.ref x :: st) h Q) : gG B m d c n pc lv (st) h Q := by
  intro p e s mi args below meth cd H locs cells slots ls C R S hl
  exact lv_aload_n C.1 C.2.1 hdg rfl (lvGet_at hl hg) (kk p e s mi args below meth cd H locs cells slots ls C R S hl)
theorem gG_aload_nN {k : Fin 4} (hdg : decode (gCd m) pc = .ok (.aload_n k, 1)) (hg : lvGet lv k.val = some .null) (kk : gG B m d c n (pc + 1) lv (.null :: st) h Q) : gG B m d c n pc lv (st) h Q := by
  intro p e s mi args below meth cd H locs cells slots ls C R S hl
  exact lv_aload_nN C.1 C.2.1 hdg rfl (lvGet_at hl hg) (kk p e s mi args below meth cd H locs cells slots ls C R S hl)
theorem gG_aloadR {i : Nat} {x : Nat} (hdg : decode (gCd m) pc = .ok (.aload i, 2)) (hg : lvGet lv i = some (.ref x)) (kk : gG B m d c n (pc + 2) lv (.ref x :: st) h Q) : gG B m d c n pc lv (st) h Q := by
  intro p e s mi args below meth cd H locs cells slots ls C R S hl
  exact lv_aload C.1 C.2.1 hdg (lvGet_at hl hg) (kk p e s mi args below meth cd H locs cells slots ls C R S hl)
theorem gG_aloadN {i : Nat} (hdg : decode (gCd m) pc = .ok (.aload i, 2)) (hg : lvGet lv i = some .null) (kk : gG B m d c n (pc + 2) lv (.null :: st) h Q) : gG B m d c n pc lv (st) h Q := by
  intro p e s mi args below meth cd H locs cells slots ls C R S hl
  exact lv_aloadN C.1 C.2.1 hdg (lvGet_at hl hg) (kk p e s mi args below meth cd H locs cells slots ls C R S hl)
theorem gG_iadd {x y : Int32} (hdg : decode (gCd m) pc = .ok (.iadd, 1))  (kk : gG B m d c n (pc + 1) lv (.int (x + y) :: st) h Q) : gG B m d c n pc lv (.int y :: .int x :: st) h Q := by
  intro p e s mi args below meth cd H locs cells slots ls C R S hl
  exact lv_iadd C.1 C.2.1 hdg  (kk p e s mi args below meth cd H locs cells slots ls C R S hl)
theorem gG_isub {x y : Int32} (hdg : decode (gCd m) pc = .ok (.isub, 1))  (kk : gG B m d c n (pc + 1) lv (.int (x - y) :: st) h Q) : gG B m d c n pc lv (.int y :: .int x :: st) h Q := by
  intro p e s mi args below meth cd H locs cells slots ls C R S hl
  exact lv_isub C.1 C.2.1 hdg  (kk p e s mi args below meth cd H locs cells slots ls C R S hl)
theorem gG_imul {x y : Int32} (hdg : decode (gCd m) pc = .ok (.imul, 1))  (kk : gG B m d c n (pc + 1) lv (.int (x * y) :: st) h Q) : gG B m d c n pc lv (.int y :: .int x :: st) h Q := by
  intro p e s mi args below meth cd H locs cells slots ls C R S hl
  exact lv_imul C.1 C.2.1 hdg  (kk p e s mi args below meth cd H locs cells slots ls C R S hl)
theorem gG_iand {x y : Int32} (hdg : decode (gCd m) pc = .ok (.iand, 1))  (kk : gG B m d c n (pc + 1) lv (.int (x &&& y) :: st) h Q) : gG B m d c n pc lv (.int y :: .int x :: st) h Q := by
  intro p e s mi args below meth cd H locs cells slots ls C R S hl
  exact lv_iand C.1 C.2.1 hdg  (kk p e s mi args below meth cd H locs cells slots ls C R S hl)
theorem gG_ior {x y : Int32} (hdg : decode (gCd m) pc = .ok (.ior, 1))  (kk : gG B m d c n (pc + 1) lv (.int (x ||| y) :: st) h Q) : gG B m d c n pc lv (.int y :: .int x :: st) h Q := by
  intro p e s mi args below meth cd H locs cells slots ls C R S hl
  exact lv_ior C.1 C.2.1 hdg  (kk p e s mi args below meth cd H locs cells slots ls C R S hl)
theorem gG_ixor {x y : Int32} (hdg : decode (gCd m) pc = .ok (.ixor, 1))  (kk : gG B m d c n (pc + 1) lv (.int (x ^^^ y) :: st) h Q) : gG B m d c n pc lv (.int y :: .int x :: st) h Q := by
  intro p e s mi args below meth cd H locs cells slots ls C R S hl
  exact lv_ixor C.1 C.2.1 hdg  (kk p e s mi args below meth cd H locs cells slots ls C R S hl)
theorem gG_ladd {x y : Int64} (hdg : decode (gCd m) pc = .ok (.ladd, 1))  (kk : gG B m d c n (pc + 1) lv (.long (x + y) :: st) h Q) : gG B m d c n pc lv (.long y :: .long x :: st) h Q := by
  intro p e s mi args below meth cd H locs cells slots ls C R S hl
  exact lv_ladd C.1 C.2.1 hdg  (kk p e s mi args below meth cd H locs cells slots ls C R S hl)
theorem gG_lsub {x y : Int64} (hdg : decode (gCd m) pc = .ok (.lsub, 1))  (kk : gG B m d c n (pc + 1) lv (.long (x - y) :: st) h Q) : gG B m d c n pc lv (.long y :: .long x :: st) h Q := by
  intro p e s mi args below meth cd H locs cells slots ls C R S hl
  exact lv_lsub C.1 C.2.1 hdg  (kk p e s mi args below meth cd H locs cells slots ls C R S hl)
theorem gG_lmul {x y : Int64} (hdg : decode (gCd m) pc = .ok (.lmul, 1))  (kk : gG B m d c n (pc + 1) lv (.long (x * y) :: st) h Q) : gG B m d c n pc lv (.long y :: .long x :: st) h Q := by
  intro p e s mi args below meth cd H locs cells slots ls C R S hl
  exact lv_lmul C.1 C.2.1 hdg  (kk p e s mi args below meth cd H locs cells slots ls C R S hl)
theorem gG_land {x y : Int64} (hdg : decode (gCd m) pc = .ok (.land, 1))  (kk : gG B m d c n (pc + 1) lv (.long (x &&& y) :: st) h Q) : gG B m d c n pc lv (.long y :: .long x :: st) h Q := by
  intro p e s mi args below meth cd H locs cells slots ls C R S hl
  exact lv_land C.1 C.2.1 hdg  (kk p e s mi args below meth cd H locs cells slots ls C R S hl)
theorem gG_lor {x y : Int64} (hdg : decode (gCd m) pc = .ok (.lor, 1))  (kk : gG B m d c n (pc + 1) lv (.long (x ||| y) :: st) h Q) : gG B m d c n pc lv (.long y :: .long x :: st) h Q := by
  intro p e s mi args below meth cd H locs cells slots ls C R S hl
  exact lv_lor C.1 C.2.1 hdg  (kk p e s mi args below meth cd H locs cells slots ls C R S hl)
theorem gG_irem {x y : Int32} (hdg : decode (gCd m) pc = .ok (.irem, 1)) (hne : ¬ y = 0) (kk : gG B m d c n (pc + 1) lv (.int (x - x / y * y) :: st) h Q) : gG B m d c n pc lv (.int y :: .int x :: st) h Q := by
  intro p e s mi args below meth cd H locs cells slots ls C R S hl
  exact lv_irem C.1 C.2.1 hdg hne (kk p e s mi args below meth cd H locs cells slots ls C R S hl)
theorem gG_ishl {x y : Int32} (hdg : decode (gCd m) pc = .ok (.ishl, 1))  (kk : gG B m d c n (pc + 1) lv (.int (x <<< (y &&& 31)) :: st) h Q) : gG B m d c n pc lv (.int y :: .int x :: st) h Q := by
  intro p e s mi args below meth cd H locs cells slots ls C R S hl
  exact lv_ishl C.1 C.2.1 hdg  (kk p e s mi args below meth cd H locs cells slots ls C R S hl)
theorem gG_ishr {x y : Int32} (hdg : decode (gCd m) pc = .ok (.ishr, 1))  (kk : gG B m d c n (pc + 1) lv (.int (x >>> (y &&& 31)) :: st) h Q) : gG B m d c n pc lv (.int y :: .int x :: st) h Q := by
  intro p e s mi args below meth cd H locs cells slots ls C R S hl
  exact lv_ishr C.1 C.2.1 hdg  (kk p e s mi args below meth cd H locs cells slots ls C R S hl)
theorem gG_iushr {x y : Int32} (hdg : decode (gCd m) pc = .ok (.iushr, 1))  (kk : gG B m d c n (pc + 1) lv (.int ((x.toUInt32 >>> (y.toUInt32 &&& Int32.toUInt32 31)).toInt32) :: st) h Q) : gG B m d c n pc lv (.int y :: .int x :: st) h Q := by
  intro p e s mi args below meth cd H locs cells slots ls C R S hl
  exact lv_iushr C.1 C.2.1 hdg rfl (kk p e s mi args below meth cd H locs cells slots ls C R S hl)
theorem gG_lushr {x : Int64} {y : Int32} (hdg : decode (gCd m) pc = .ok (.lushr, 1))  (kk : gG B m d c n (pc + 1) lv (.long ((x.toUInt64 >>> (y.toInt64.toUInt64 &&& Int64.toUInt64 63)).toInt64) :: st) h Q) : gG B m d c n pc lv (.int y :: .long x :: st) h Q := by
  intro p e s mi args below meth cd H locs cells slots ls C R S hl
  exact lv_lushr C.1 C.2.1 hdg rfl (kk p e s mi args below meth cd H locs cells slots ls C R S hl)
theorem gG_lshl {x : Int64} {y : Int32} (hdg : decode (gCd m) pc = .ok (.lshl, 1))  (kk : gG B m d c n (pc + 1) lv (.long (x <<< (y.toInt64 &&& 63)) :: st) h Q) : gG B m d c n pc lv (.int y :: .long x :: st) h Q := by
  intro p e s mi args below meth cd H locs cells slots ls C R S hl
  exact lv_lshl C.1 C.2.1 hdg rfl (kk p e s mi args below meth cd H locs cells slots ls C R S hl)
theorem gG_lshr {x : Int64} {y : Int32} (hdg : decode (gCd m) pc = .ok (.lshr, 1))  (kk : gG B m d c n (pc + 1) lv (.long (x >>> (y.toInt64 &&& 63)) :: st) h Q) : gG B m d c n pc lv (.int y :: .long x :: st) h Q := by
  intro p e s mi args below meth cd H locs cells slots ls C R S hl
  exact lv_lshr C.1 C.2.1 hdg rfl (kk p e s mi args below meth cd H locs cells slots ls C R S hl)
theorem gG_i2l {x : Int32} (hdg : decode (gCd m) pc = .ok (.i2l, 1))  (kk : gG B m d c n (pc + 1) lv (.long x.toInt64 :: st) h Q) : gG B m d c n pc lv (.int x :: st) h Q := by
  intro p e s mi args below meth cd H locs cells slots ls C R S hl
  exact lv_i2l C.1 C.2.1 hdg rfl (kk p e s mi args below meth cd H locs cells slots ls C R S hl)
theorem gG_l2i {x : Int64} (hdg : decode (gCd m) pc = .ok (.l2i, 1))  (kk : gG B m d c n (pc + 1) lv (.int x.toInt32 :: st) h Q) : gG B m d c n pc lv (.long x :: st) h Q := by
  intro p e s mi args below meth cd H locs cells slots ls C R S hl
  exact lv_l2i C.1 C.2.1 hdg rfl (kk p e s mi args below meth cd H locs cells slots ls C R S hl)
theorem gG_i2c {x : Int32} (hdg : decode (gCd m) pc = .ok (.i2c, 1))  (kk : gG B m d c n (pc + 1) lv (.int (x.toUInt32 % 65536).toInt32 :: st) h Q) : gG B m d c n pc lv (.int x :: st) h Q := by
  intro p e s mi args below meth cd H locs cells slots ls C R S hl
  exact lv_i2c C.1 C.2.1 hdg rfl (kk p e s mi args below meth cd H locs cells slots ls C R S hl)
theorem gG_lcmp {x y : Int64} (hdg : decode (gCd m) pc = .ok (.lcmp, 1))  (kk : gG B m d c n (pc + 1) lv (.int (lg_cmp x y) :: st) h Q) : gG B m d c n pc lv (.long y :: .long x :: st) h Q := by
  intro p e s mi args below meth cd H locs cells slots ls C R S hl
  exact W.lcmp C.1 C.2.1 hdg  (kk p e s mi args below meth cd H locs cells slots ls C R S hl)
theorem gG_dup {v : Value} (hdg : decode (gCd m) pc = .ok (.dup, 1)) (hv : v.category = 1) (kk : gG B m d c n (pc + 1) lv (v :: v :: st) h Q) : gG B m d c n pc lv (v :: st) h Q := by
  intro p e s mi args below meth cd H locs cells slots ls C R S hl
  exact lv_dup C.1 C.2.1 hdg hv (kk p e s mi args below meth cd H locs cells slots ls C R S hl)
theorem gG_pop {v : Value} (hdg : decode (gCd m) pc = .ok (.pop, 1)) (hv : v.category = 1) (kk : gG B m d c n (pc + 1) lv (st) h Q) : gG B m d c n pc lv (v :: st) h Q := by
  intro p e s mi args below meth cd H locs cells slots ls C R S hl
  exact lv_pop C.1 C.2.1 hdg hv (kk p e s mi args below meth cd H locs cells slots ls C R S hl)
theorem gG_dup_x1 {v w : Value} (hdg : decode (gCd m) pc = .ok (.dup_x1, 1)) (hv : v.category = 1) (hw : w.category = 1) (kk : gG B m d c n (pc + 1) lv (v :: w :: v :: st) h Q) : gG B m d c n pc lv (v :: w :: st) h Q := by
  intro p e s mi args below meth cd H locs cells slots ls C R S hl
  exact lv_dup_x1 C.1 C.2.1 hdg hv hw (kk p e s mi args below meth cd H locs cells slots ls C R S hl)
theorem gG_dup2 {v w : Value} (hdg : decode (gCd m) pc = .ok (.dup2, 1)) (hv : v.category = 1) (hw : w.category = 1) (kk : gG B m d c n (pc + 1) lv (v :: w :: v :: w :: st) h Q) : gG B m d c n pc lv (v :: w :: st) h Q := by
  intro p e s mi args below meth cd H locs cells slots ls C R S hl
  exact lv_dup2_11 C.1 C.2.1 hdg hv hw (kk p e s mi args below meth cd H locs cells slots ls C R S hl)
theorem gG_goto {off : Int} {tgt : Nat} (hdg : decode (gCd m) pc = .ok (.goto off, 3)) (ht : (pc : Int) + off = (tgt : Int)) (kk : gG B m d c n tgt lv (st) h Q) : gG B m d c n pc lv (st) h Q := by
  intro p e s mi args below meth cd H locs cells slots ls C R S hl
  exact lv_goto C.1 C.2.1 hdg ht (kk p e s mi args below meth cd H locs cells slots ls C R S hl)
theorem gG_ifnullR {x : Nat} {off : Int} (hdg : decode (gCd m) pc = .ok (.ifnull off, 3))  (kk : gG B m d c n (pc + 3) lv (st) h Q) : gG B m d c n pc lv (.ref x :: st) h Q := by
  intro p e s mi args below meth cd H locs cells slots ls C R S hl
  exact lv_ifnull C.1 C.2.1 hdg  (kk p e s mi args below meth cd H locs cells slots ls C R S hl)
theorem gG_ifnullN {off : Int} {tgt : Nat} (hdg : decode (gCd m) pc = .ok (.ifnull off, 3)) (ht : (pc : Int) + off = (tgt : Int)) (kk : gG B m d c n tgt lv (st) h Q) : gG B m d c n pc lv (.null :: st) h Q := by
  intro p e s mi args below meth cd H locs cells slots ls C R S hl
  exact lv_ifnullN C.1 C.2.1 hdg ht (kk p e s mi args below meth cd H locs cells slots ls C R S hl)
theorem gG_ifnonnullR {x : Nat} {off : Int} {tgt : Nat} (hdg : decode (gCd m) pc = .ok (.ifnonnull off, 3)) (ht : (pc : Int) + off = (tgt : Int)) (kk : gG B m d c n tgt lv (st) h Q) : gG B m d c n pc lv (.ref x :: st) h Q := by
  intro p e s mi args below meth cd H locs cells slots ls C R S hl
  exact lv_ifnonnull C.1 C.2.1 hdg ht (kk p e s mi args below meth cd H locs cells slots ls C R S hl)
theorem gG_ifnonnullN {off : Int} (hdg : decode (gCd m) pc = .ok (.ifnonnull off, 3))  (kk : gG B m d c n (pc + 3) lv (st) h Q) : gG B m d c n pc lv (.null :: st) h Q := by
  intro p e s mi args below meth cd H locs cells slots ls C R S hl
  exact lv_ifnonnullN C.1 C.2.1 hdg  (kk p e s mi args below meth cd H locs cells slots ls C R S hl)
theorem gG_if_eq {x : Int32} {off : Int} {tgt : Nat} (hdg : decode (gCd m) pc = .ok (.ifCond .eq off, 3)) (ht : (pc : Int) + off = (tgt : Int)) (kt : x = 0 → gG B m d c n tgt lv st h Q) (kf : ¬ x = 0 → gG B m d c n (pc + 3) lv st h Q) : gG B m d c n pc lv (.int x :: st) h Q := by
  intro p e s mi args below meth cd H locs cells slots ls C R S hl
  exact lv_if_eq C.1 C.2.1 hdg ht (fun z => kt z p e s mi args below meth cd H locs cells slots ls C R S hl) (fun z => kf z p e s mi args below meth cd H locs cells slots ls C R S hl)
theorem gG_icmp_eq {x y : Int32} {off : Int} {tgt : Nat} (hdg : decode (gCd m) pc = .ok (.if_icmp .eq off, 3)) (ht : (pc : Int) + off = (tgt : Int)) (kt : x = y → gG B m d c n tgt lv st h Q) (kf : ¬ x = y → gG B m d c n (pc + 3) lv st h Q) : gG B m d c n pc lv (.int y :: .int x :: st) h Q := by
  intro p e s mi args below meth cd H locs cells slots ls C R S hl
  exact lv_icmp_eq C.1 C.2.1 hdg ht (fun z => kt z p e s mi args below meth cd H locs cells slots ls C R S hl) (fun z => kf z p e s mi args below meth cd H locs cells slots ls C R S hl)
theorem gG_if_ne {x : Int32} {off : Int} {tgt : Nat} (hdg : decode (gCd m) pc = .ok (.ifCond .ne off, 3)) (ht : (pc : Int) + off = (tgt : Int)) (kt : ¬ x = 0 → gG B m d c n tgt lv st h Q) (kf : x = 0 → gG B m d c n (pc + 3) lv st h Q) : gG B m d c n pc lv (.int x :: st) h Q := by
  intro p e s mi args below meth cd H locs cells slots ls C R S hl
  exact lv_if_ne C.1 C.2.1 hdg ht (fun z => kt z p e s mi args below meth cd H locs cells slots ls C R S hl) (fun z => kf z p e s mi args below meth cd H locs cells slots ls C R S hl)
theorem gG_icmp_ne {x y : Int32} {off : Int} {tgt : Nat} (hdg : decode (gCd m) pc = .ok (.if_icmp .ne off, 3)) (ht : (pc : Int) + off = (tgt : Int)) (kt : ¬ x = y → gG B m d c n tgt lv st h Q) (kf : x = y → gG B m d c n (pc + 3) lv st h Q) : gG B m d c n pc lv (.int y :: .int x :: st) h Q := by
  intro p e s mi args below meth cd H locs cells slots ls C R S hl
  exact lv_icmp_ne C.1 C.2.1 hdg ht (fun z => kt z p e s mi args below meth cd H locs cells slots ls C R S hl) (fun z => kf z p e s mi args below meth cd H locs cells slots ls C R S hl)
theorem gG_if_lt {x : Int32} {off : Int} {tgt : Nat} (hdg : decode (gCd m) pc = .ok (.ifCond .lt off, 3)) (ht : (pc : Int) + off = (tgt : Int)) (kt : x < 0 → gG B m d c n tgt lv st h Q) (kf : ¬ x < 0 → gG B m d c n (pc + 3) lv st h Q) : gG B m d c n pc lv (.int x :: st) h Q := by
  intro p e s mi args below meth cd H locs cells slots ls C R S hl
  exact lv_if_lt C.1 C.2.1 hdg ht (fun z => kt z p e s mi args below meth cd H locs cells slots ls C R S hl) (fun z => kf z p e s mi args below meth cd H locs cells slots ls C R S hl)
theorem gG_icmp_lt {x y : Int32} {off : Int} {tgt : Nat} (hdg : decode (gCd m) pc = .ok (.if_icmp .lt off, 3)) (ht : (pc : Int) + off = (tgt : Int)) (kt : x < y → gG B m d c n tgt lv st h Q) (kf : ¬ x < y → gG B m d c n (pc + 3) lv st h Q) : gG B m d c n pc lv (.int y :: .int x :: st) h Q := by
  intro p e s mi args below meth cd H locs cells slots ls C R S hl
  exact lv_icmp_lt C.1 C.2.1 hdg ht (fun z => kt z p e s mi args below meth cd H locs cells slots ls C R S hl) (fun z => kf z p e s mi args below meth cd H locs cells slots ls C R S hl)
theorem gG_if_ge {x : Int32} {off : Int} {tgt : Nat} (hdg : decode (gCd m) pc = .ok (.ifCond .ge off, 3)) (ht : (pc : Int) + off = (tgt : Int)) (kt : 0 ≤ x → gG B m d c n tgt lv st h Q) (kf : ¬ 0 ≤ x → gG B m d c n (pc + 3) lv st h Q) : gG B m d c n pc lv (.int x :: st) h Q := by
  intro p e s mi args below meth cd H locs cells slots ls C R S hl
  exact lv_if_ge C.1 C.2.1 hdg ht (fun z => kt z p e s mi args below meth cd H locs cells slots ls C R S hl) (fun z => kf z p e s mi args below meth cd H locs cells slots ls C R S hl)
theorem gG_icmp_ge {x y : Int32} {off : Int} {tgt : Nat} (hdg : decode (gCd m) pc = .ok (.if_icmp .ge off, 3)) (ht : (pc : Int) + off = (tgt : Int)) (kt : y ≤ x → gG B m d c n tgt lv st h Q) (kf : ¬ y ≤ x → gG B m d c n (pc + 3) lv st h Q) : gG B m d c n pc lv (.int y :: .int x :: st) h Q := by
  intro p e s mi args below meth cd H locs cells slots ls C R S hl
  exact lv_icmp_ge C.1 C.2.1 hdg ht (fun z => kt z p e s mi args below meth cd H locs cells slots ls C R S hl) (fun z => kf z p e s mi args below meth cd H locs cells slots ls C R S hl)
theorem gG_if_gt {x : Int32} {off : Int} {tgt : Nat} (hdg : decode (gCd m) pc = .ok (.ifCond .gt off, 3)) (ht : (pc : Int) + off = (tgt : Int)) (kt : 0 < x → gG B m d c n tgt lv st h Q) (kf : ¬ 0 < x → gG B m d c n (pc + 3) lv st h Q) : gG B m d c n pc lv (.int x :: st) h Q := by
  intro p e s mi args below meth cd H locs cells slots ls C R S hl
  exact lv_if_gt C.1 C.2.1 hdg ht (fun z => kt z p e s mi args below meth cd H locs cells slots ls C R S hl) (fun z => kf z p e s mi args below meth cd H locs cells slots ls C R S hl)
theorem gG_icmp_gt {x y : Int32} {off : Int} {tgt : Nat} (hdg : decode (gCd m) pc = .ok (.if_icmp .gt off, 3)) (ht : (pc : Int) + off = (tgt : Int)) (kt : y < x → gG B m d c n tgt lv st h Q) (kf : ¬ y < x → gG B m d c n (pc + 3) lv st h Q) : gG B m d c n pc lv (.int y :: .int x :: st) h Q := by
  intro p e s mi args below meth cd H locs cells slots ls C R S hl
  exact lv_icmp_gt C.1 C.2.1 hdg ht (fun z => kt z p e s mi args below meth cd H locs cells slots ls C R S hl) (fun z => kf z p e s mi args below meth cd H locs cells slots ls C R S hl)
theorem gG_if_le {x : Int32} {off : Int} {tgt : Nat} (hdg : decode (gCd m) pc = .ok (.ifCond .le off, 3)) (ht : (pc : Int) + off = (tgt : Int)) (kt : x ≤ 0 → gG B m d c n tgt lv st h Q) (kf : ¬ x ≤ 0 → gG B m d c n (pc + 3) lv st h Q) : gG B m d c n pc lv (.int x :: st) h Q := by
  intro p e s mi args below meth cd H locs cells slots ls C R S hl
  exact lv_if_le C.1 C.2.1 hdg ht (fun z => kt z p e s mi args below meth cd H locs cells slots ls C R S hl) (fun z => kf z p e s mi args below meth cd H locs cells slots ls C R S hl)
theorem gG_icmp_le {x y : Int32} {off : Int} {tgt : Nat} (hdg : decode (gCd m) pc = .ok (.if_icmp .le off, 3)) (ht : (pc : Int) + off = (tgt : Int)) (kt : x ≤ y → gG B m d c n tgt lv st h Q) (kf : ¬ x ≤ y → gG B m d c n (pc + 3) lv st h Q) : gG B m d c n pc lv (.int y :: .int x :: st) h Q := by
  intro p e s mi args below meth cd H locs cells slots ls C R S hl
  exact lv_icmp_le C.1 C.2.1 hdg ht (fun z => kt z p e s mi args below meth cd H locs cells slots ls C R S hl) (fun z => kf z p e s mi args below meth cd H locs cells slots ls C R S hl)
theorem gG_istore_n {k : Fin 4} {x : Int32} (hdg : decode (gCd m) pc = .ok (.istore_n k, 1)) (hn : k.val < gL m) (kk : gG B m d c n (pc + 1) (lvSet1 lv k.val (.int x)) st h Q) : gG B m d c n pc lv (.int x :: st) h Q := by
  intro p e s mi args below meth cd H locs cells slots ls C R S hl
  exact lv_istore_n C.1 C.2.1 hdg rfl hl hn rfl (fun ls hl => kk p e s mi args below meth cd H locs cells slots ls C R S (lvSet_has hl))
theorem gG_istore {i : Nat} {x : Int32} (hdg : decode (gCd m) pc = .ok (.istore i, 2)) (hn : i < gL m) (kk : gG B m d c n (pc + 2) (lvSet1 lv i (.int x)) st h Q) : gG B m d c n pc lv (.int x :: st) h Q := by
  intro p e s mi args below meth cd H locs cells slots ls C R S hl
  exact lv_istore C.1 C.2.1 hdg  hl hn rfl (fun ls hl => kk p e s mi args below meth cd H locs cells slots ls C R S (lvSet_has hl))
theorem gG_astore_nR {k : Fin 4} {x : Nat} (hdg : decode (gCd m) pc = .ok (.astore_n k, 1)) (hn : k.val < gL m) (kk : gG B m d c n (pc + 1) (lvSet1 lv k.val (.ref x)) st h Q) : gG B m d c n pc lv (.ref x :: st) h Q := by
  intro p e s mi args below meth cd H locs cells slots ls C R S hl
  exact lv_astore_n C.1 C.2.1 hdg rfl hl hn rfl (fun ls hl => kk p e s mi args below meth cd H locs cells slots ls C R S (lvSet_has hl))
theorem gG_astore_nN {k : Fin 4} (hdg : decode (gCd m) pc = .ok (.astore_n k, 1)) (hn : k.val < gL m) (kk : gG B m d c n (pc + 1) (lvSet1 lv k.val (.null)) st h Q) : gG B m d c n pc lv (.null :: st) h Q := by
  intro p e s mi args below meth cd H locs cells slots ls C R S hl
  exact lv_astore_nN C.1 C.2.1 hdg rfl hl hn rfl (fun ls hl => kk p e s mi args below meth cd H locs cells slots ls C R S (lvSet_has hl))
theorem gG_astoreR {i x : Nat} (hdg : decode (gCd m) pc = .ok (.astore i, 2)) (hn : i < gL m) (kk : gG B m d c n (pc + 2) (lvSet1 lv i (.ref x)) st h Q) : gG B m d c n pc lv (.ref x :: st) h Q := by
  intro p e s mi args below meth cd H locs cells slots ls C R S hl
  exact lv_astore C.1 C.2.1 hdg  hl hn rfl (fun ls hl => kk p e s mi args below meth cd H locs cells slots ls C R S (lvSet_has hl))
theorem gG_astoreN {i : Nat} (hdg : decode (gCd m) pc = .ok (.astore i, 2)) (hn : i < gL m) (kk : gG B m d c n (pc + 2) (lvSet1 lv i (.null)) st h Q) : gG B m d c n pc lv (.null :: st) h Q := by
  intro p e s mi args below meth cd H locs cells slots ls C R S hl
  exact lv_astoreN C.1 C.2.1 hdg  hl hn rfl (fun ls hl => kk p e s mi args below meth cd H locs cells slots ls C R S (lvSet_has hl))
theorem gG_lstore {i : Nat} {x : Int64} (hdg : decode (gCd m) pc = .ok (.lstore i, 2)) (hn : i + 1 < gL m) (kk : gG B m d c n (pc + 2) (lvSet2 lv i (.long x)) st h Q) : gG B m d c n pc lv (.long x :: st) h Q := by
  intro p e s mi args below meth cd H locs cells slots ls C R S hl
  exact lv_lstore C.1 C.2.1 hdg  hl hn rfl (fun ls hl => kk p e s mi args below meth cd H locs cells slots ls C R S (lvSet_has hl))
theorem gG_iinc {i : Nat} {k : Int} {x v : Int32} (hdg : decode (gCd m) pc = .ok (.iinc i k, 3)) (hg : lvGet lv i = some (.int x)) (hv : x + Int32.ofInt k = v) (hn : i < gL m) (kk : gG B m d c n (pc + 3) (lvSet1 lv i (.int v)) st h Q) : gG B m d c n pc lv st h Q := by
  intro p e s mi args below meth cd H locs cells slots ls C R S hl
  obtain ⟨j, hj⟩ := lvGet_mem hg
  exact lv_iinc C.1 C.2.1 hdg hl hj hv hn rfl (fun ls hl => kk p e s mi args below meth cd H locs cells slots ls C R S (lvSet_has hl))
theorem gG_ldc {i : Nat} {v : Int32} (hdg : decode (gCd m) pc = .ok (.ldc i, 2)) (hw : Cond.constant (gY m).cls i v ∈ lw_good) (kk : gG B m d c n (pc + 2) lv (.int v :: st) h Q) : gG B m d c n pc lv st h Q := by
  intro p e s mi args below meth cd H locs cells slots ls C R S hl
  exact lv_ldc C.1 C.2.1 C.2.2.2.2.2.1 (C.2.2.2.2.2.2.2.1 _ hw) hdg (kk p e s mi args below meth cd H locs cells slots ls C R S hl)
theorem gG_ldc2 {i : Nat} {v : Int64} (hdg : decode (gCd m) pc = .ok (.ldc2_w i, 3)) (hw : Cond.constantLong (gY m).cls i v ∈ lw_good) (kk : gG B m d c n (pc + 3) lv (.long v :: st) h Q) : gG B m d c n pc lv st h Q := by
  intro p e s mi args below meth cd H locs cells slots ls C R S hl
  exact lv_ldc2 C.1 C.2.1 C.2.2.2.2.2.1 (C.2.2.2.2.2.2.2.1 _ hw) hdg (kk p e s mi args below meth cd H locs cells slots ls C R S hl)
theorem gG_get {ci k idx a : Nat} {q : vw_C} (hdg : decode (gCd m) pc = .ok (.getfield idx, 3)) (hcl : vwCl[ci]? = some q) (hk : k < q.2.2) (hN : gNf.getD ci 0 = q.2.2) (hc : ci < 11) (hlk : Cond.fieldLink (gY m).cls idx (q.2.1 k).1 (q.2.1 k).2.1 (q.2.1 k).2.2.1 ∈ lw_good) (ha : hK h a = ci + 1) (kk : gG B m d c n (pc + 3) lv (gFv h ci a k :: st) h Q) : gG B m d c n pc lv (.ref a :: st) h Q := by
  intro p e s mi args below meth cd H locs cells slots ls C R S hl
  obtain ⟨L, hL, hP, hD, hb⟩ := id R
  obtain ⟨hx, hcode, hml, hr, hlo, hown, hnm, hts, ⟨hKK, hEE⟩, hbs, hEx⟩ := id C
  have haL : a ∈ L := (hL a).mpr (by omega)
  obtain ⟨q0, hq⟩ := gRel_at (f := gCell B.2.2.1 h) haL
  have hq0 := hq
  rw [gCell_o ha hc] at hq0
  obtain ⟨C', T, N⟩ := q
  refine va_get hx hcode hts (gIn hcl) hown hKK hP q0 hq0 hcl k hk (hts _ hlk) (fun _ h => h) (gFl_at (by rw [hN]; exact hk)) hdg ?_
  exact kk p e s mi args below meth cd H locs cells slots ls C R S hl
theorem gG_put {ci k idx a : Nat} {q : vw_C} {v : Value} {ty : FieldType} {h' : gHp} (hdg : decode (gCd m) pc = .ok (.putfield idx, 3)) (hcl : vwCl[ci]? = some q) (hk : k < q.2.2) (hN : gNf.getD ci 0 = q.2.2) (hc : ci < 11) (hlk : Cond.fieldLink (gY m).cls idx (q.2.1 k).1 (q.2.1 k).2.1 (q.2.1 k).2.2.1 ∈ lw_good) (hfin : (q.2.1 k).2.2.2 = false ∨ ((q.2.1 k).2.2.2 = true ∧ (gY m).name = "<init>" ∧ (q.2.1 k).1 = (gY m).cls)) (hd : parseFieldDescriptor (q.2.1 k).2.2.1 = some ty) (hn : narrow ty v = v) (hfit : fits ty v = true) (ha : hK h a = ci + 1) (hk' : hK h' = hK h) (hw : ∀ kA : Nat → ClassId, va_up (gCell kA h) a (.inr (ci, (gFl h ci a).set k v)) = gCell kA h') (kk : gG B m d c n (pc + 3) lv st h' Q) : gG B m d c n pc lv (v :: .ref a :: st) h Q := by
  intro p e s mi args below meth cd H locs cells slots ls C R S hl
  obtain ⟨L, hL, hP, hD, hb⟩ := id R
  obtain ⟨hx, hcode, hml, hr, hlo, hown, hnm, hts, ⟨hKK, hEE⟩, hbs, hEx⟩ := id C
  have haL : a ∈ L := (hL a).mpr (by omega)
  obtain ⟨q0, hq⟩ := gRel_at (f := gCell B.2.2.1 h) haL
  have hq0 := hq
  rw [gCell_o ha hc] at hq0
  obtain ⟨C', T, N⟩ := q
  obtain ⟨ty0, hty0⟩ := gTyO hcl
  rcases hfin with hfin | ⟨hfin, hi, hdc⟩
  · refine va_put hx hcode hts (gIn hcl) ty0 hty0 (gNmO hcl) hown hKK hP hD S q0 hq0 hcl k hk (hts _ hlk) (fun _ h => h) hfin hd hn hfit (by rw [gFl_len, hN]; exact hk) hdg ?_
    intro H1 locs1 hP1 hD1 hS1
    exact kk p e s mi args below meth cd H1 locs1 cells slots ls C (gRel_put hL hD haL hq hk' (hw _) hP1 hD1 (hS1.base hbs)) hS1 hl
  · refine va_putF hx hcode hts (gIn hcl) ty0 hty0 (gNmO hcl) hown hKK hP hD S q0 hq0 hcl k hk (hts _ hlk) (fun _ h => h) hfin ((hnm.resolve_left (by rw [hi]; decide)).trans hi) hdc hd hn hfit (by rw [gFl_len, hN]; exact hk) hdg ?_
    intro H1 locs1 hP1 hD1 hS1
    exact kk p e s mi args below meth cd H1 locs1 cells slots ls C (gRel_put hL hD haL hq hk' (hw _) hP1 hD1 (hS1.base hbs)) hS1 hl
theorem gG_iald {a t : Nat} {i : Int32} (hdg : decode (gCd m) pc = .ok (.iaload, 1)) (ht : t = 12 ∨ t = 112) (ha : hK h a = t) (hin : vp_in i (hN h a)) (kk : gG B m d c n (pc + 1) lv (.int (hA h t a i.toNatClampNeg) :: st) h Q) : gG B m d c n pc lv (.int i :: .ref a :: st) h Q := by
  intro p e s mi args below meth cd H locs cells slots ls C R S hl
  obtain ⟨L, hL, hP, hD, hb⟩ := id R
  obtain ⟨hx, hcode, hml, hr, hlo, hown, hnm, hts, ⟨hKK, hEE⟩, hbs, hEx⟩ := id C
  have haL : a ∈ L := (hL a).mpr (by omega)
  obtain ⟨q0, hq⟩ := gRel_at (f := gCell B.2.2.1 h) haL
  have hq0 := hq
  rw [gCell_i ha ht] at hq0
  refine va_iald hx hcode hKK hP q0 0 hq0 rfl hin hdg ?_
  exact kk p e s mi args below meth cd H locs cells slots ls C R S hl
theorem gG_zald {a t : Nat} {i : Int32} (hdg : decode (gCd m) pc = .ok (.baload, 1)) (ht : t = 14 ∨ t = 114) (ha : hK h a = t) (hin : vp_in i (hN h a)) (kk : gG B m d c n (pc + 1) lv (.int (hA h t a i.toNatClampNeg) :: st) h Q) : gG B m d c n pc lv (.int i :: .ref a :: st) h Q := by
  intro p e s mi args below meth cd H locs cells slots ls C R S hl
  obtain ⟨L, hL, hP, hD, hb⟩ := id R
  obtain ⟨hx, hcode, hml, hr, hlo, hown, hnm, hts, ⟨hKK, hEE⟩, hbs, hEx⟩ := id C
  have haL : a ∈ L := (hL a).mpr (by omega)
  obtain ⟨q0, hq⟩ := gRel_at (f := gCell B.2.2.1 h) haL
  have hq0 := hq
  rw [gCell_z ha ht] at hq0
  refine va_zald hx hcode hKK hP q0 2 hq0 rfl hin hdg ?_
  exact kk p e s mi args below meth cd H locs cells slots ls C R S hl
theorem gG_cald {a t : Nat} {i : Int32} (hdg : decode (gCd m) pc = .ok (.caload, 1)) (ht : t = 15) (ha : hK h a = t) (hin : vp_in i (hN h a)) (kk : gG B m d c n (pc + 1) lv (.int (hA h t a i.toNatClampNeg) :: st) h Q) : gG B m d c n pc lv (.int i :: .ref a :: st) h Q := by
  intro p e s mi args below meth cd H locs cells slots ls C R S hl
  obtain ⟨L, hL, hP, hD, hb⟩ := id R
  obtain ⟨hx, hcode, hml, hr, hlo, hown, hnm, hts, ⟨hKK, hEE⟩, hbs, hEx⟩ := id C
  have haL : a ∈ L := (hL a).mpr (by omega)
  obtain ⟨q0, hq⟩ := gRel_at (f := gCell B.2.2.1 h) haL
  have hq0 := hq
  rw [gCell_c ha ht] at hq0
  refine va_cald hx hcode hKK hP q0 3 hq0 rfl hin hdg ?_
  exact kk p e s mi args below meth cd H locs cells slots ls C R S hl
theorem gG_lald {a t : Nat} {i : Int32} (hdg : decode (gCd m) pc = .ok (.laload, 1)) (ht : t = 13 ∨ t = 113) (ha : hK h a = t) (hin : vp_in i (hN h a)) (kk : gG B m d c n (pc + 1) lv (.long (hJ h t a i.toNatClampNeg) :: st) h Q) : gG B m d c n pc lv (.int i :: .ref a :: st) h Q := by
  intro p e s mi args below meth cd H locs cells slots ls C R S hl
  obtain ⟨L, hL, hP, hD, hb⟩ := id R
  obtain ⟨hx, hcode, hml, hr, hlo, hown, hnm, hts, ⟨hKK, hEE⟩, hbs, hEx⟩ := id C
  have haL : a ∈ L := (hL a).mpr (by omega)
  obtain ⟨q0, hq⟩ := gRel_at (f := gCell B.2.2.1 h) haL
  have hq0 := hq
  rw [gCell_j ha ht] at hq0
  refine va_lald hx hcode hKK hP q0 1 hq0 rfl hin hdg ?_
  exact kk p e s mi args below meth cd H locs cells slots ls C R S hl
theorem gG_aald {a : Nat} {i : Int32} (hdg : decode (gCd m) pc = .ok (.aaload, 1)) (ha : hK h a = 16) (hin : vp_in i (hN h a)) (kk : gG B m d c n (pc + 1) lv (va_rf (hO h a i.toNatClampNeg) :: st) h Q) : gG B m d c n pc lv (.int i :: .ref a :: st) h Q := by
  intro p e s mi args below meth cd H locs cells slots ls C R S hl
  obtain ⟨L, hL, hP, hD, hb⟩ := id R
  obtain ⟨hx, hcode, hml, hr, hlo, hown, hnm, hts, ⟨hKK, hEE⟩, hbs, hEx⟩ := id C
  have haL : a ∈ L := (hL a).mpr (by omega)
  obtain ⟨q0, hq⟩ := gRel_at (f := gCell B.2.2.1 h) haL
  have hq0 := hq
  rw [gCell_q ha] at hq0
  refine va_aldq hx hcode hKK hP q0 4 hq0 rfl hin hdg ?_
  exact kk p e s mi args below meth cd H locs cells slots ls C R S hl
theorem gG_iast {a t : Nat} {i : Int32} {x : Int32} (hdg : decode (gCd m) pc = .ok (.iastore, 1)) (ht : t = 12 ∨ t = 112) (ha : hK h a = t) (hin : vp_in i (hN h a)) (kk : gG B m d c n (pc + 1) lv st (sA h t a (upd (hA h t a) i.toNatClampNeg x)) Q) : gG B m d c n pc lv (.int x :: .int i :: .ref a :: st) h Q := by
  intro p e s mi args below meth cd H locs cells slots ls C R S hl
  obtain ⟨L, hL, hP, hD, hb⟩ := id R
  obtain ⟨hx, hcode, hml, hr, hlo, hown, hnm, hts, ⟨hKK, hEE⟩, hbs, hEx⟩ := id C
  have haL : a ∈ L := (hL a).mpr (by omega)
  obtain ⟨q0, hq⟩ := gRel_at (f := gCell B.2.2.1 h) haL
  have hq0 := hq
  rw [gCell_i ha ht] at hq0
  refine va_iast hx hcode hKK hP hD S q0 0 hq0 rfl hin hdg ?_
  intro H1 locs1 hP1 hD1 hS1
  refine kk p e s mi args below meth cd H1 locs1 cells slots ls C (gRel_put hL hD haL hq rfl (gCell_up ?_ (fun b hb => gCell_sA ha b hb)) hP1 hD1 (hS1.base hbs)) hS1 hl
  rw [gCell_i (h := sA h t a (upd (hA h t a) i.toNatClampNeg x)) (t := t) ha ht]; simp [hN_sA, hA_sA, hN_sJ, hJ_sJ, up2]
theorem gG_zast {a t : Nat} {i : Int32} {x : Int32} (hdg : decode (gCd m) pc = .ok (.bastore, 1)) (ht : t = 14 ∨ t = 114) (ha : hK h a = t) (hin : vp_in i (hN h a)) (kk : gG B m d c n (pc + 1) lv st (sA h t a (upd (hA h t a) i.toNatClampNeg (vp_nar .boolean x))) Q) : gG B m d c n pc lv (.int x :: .int i :: .ref a :: st) h Q := by
  intro p e s mi args below meth cd H locs cells slots ls C R S hl
  obtain ⟨L, hL, hP, hD, hb⟩ := id R
  obtain ⟨hx, hcode, hml, hr, hlo, hown, hnm, hts, ⟨hKK, hEE⟩, hbs, hEx⟩ := id C
  have haL : a ∈ L := (hL a).mpr (by omega)
  obtain ⟨q0, hq⟩ := gRel_at (f := gCell B.2.2.1 h) haL
  have hq0 := hq
  rw [gCell_z ha ht] at hq0
  refine va_zast hx hcode hKK hP hD S q0 2 hq0 rfl hin hdg ?_
  intro H1 locs1 hP1 hD1 hS1
  refine kk p e s mi args below meth cd H1 locs1 cells slots ls C (gRel_put hL hD haL hq rfl (gCell_up ?_ (fun b hb => gCell_sA ha b hb)) hP1 hD1 (hS1.base hbs)) hS1 hl
  rw [gCell_z (h := sA h t a (upd (hA h t a) i.toNatClampNeg (vp_nar .boolean x))) (t := t) ha ht]; simp [hN_sA, hA_sA, hN_sJ, hJ_sJ, up2]
theorem gG_cast {a t : Nat} {i : Int32} {x : Int32} (hdg : decode (gCd m) pc = .ok (.castore, 1)) (ht : t = 15) (ha : hK h a = t) (hin : vp_in i (hN h a)) (kk : gG B m d c n (pc + 1) lv st (sA h t a (upd (hA h t a) i.toNatClampNeg (vp_nar .char x))) Q) : gG B m d c n pc lv (.int x :: .int i :: .ref a :: st) h Q := by
  intro p e s mi args below meth cd H locs cells slots ls C R S hl
  obtain ⟨L, hL, hP, hD, hb⟩ := id R
  obtain ⟨hx, hcode, hml, hr, hlo, hown, hnm, hts, ⟨hKK, hEE⟩, hbs, hEx⟩ := id C
  have haL : a ∈ L := (hL a).mpr (by omega)
  obtain ⟨q0, hq⟩ := gRel_at (f := gCell B.2.2.1 h) haL
  have hq0 := hq
  rw [gCell_c ha ht] at hq0
  refine va_cast hx hcode hKK hP hD S q0 3 hq0 rfl hin hdg ?_
  intro H1 locs1 hP1 hD1 hS1
  refine kk p e s mi args below meth cd H1 locs1 cells slots ls C (gRel_put hL hD haL hq rfl (gCell_up ?_ (fun b hb => gCell_sA ha b hb)) hP1 hD1 (hS1.base hbs)) hS1 hl
  rw [gCell_c (h := sA h t a (upd (hA h t a) i.toNatClampNeg (vp_nar .char x))) (t := t) ha ht]; simp [hN_sA, hA_sA, hN_sJ, hJ_sJ, up2]
theorem gG_last {a t : Nat} {i : Int32} {x : Int64} (hdg : decode (gCd m) pc = .ok (.lastore, 1)) (ht : t = 13 ∨ t = 113) (ha : hK h a = t) (hin : vp_in i (hN h a)) (kk : gG B m d c n (pc + 1) lv st (sJ h t a (vp_updL (hJ h t a) i.toNatClampNeg x)) Q) : gG B m d c n pc lv (.long x :: .int i :: .ref a :: st) h Q := by
  intro p e s mi args below meth cd H locs cells slots ls C R S hl
  obtain ⟨L, hL, hP, hD, hb⟩ := id R
  obtain ⟨hx, hcode, hml, hr, hlo, hown, hnm, hts, ⟨hKK, hEE⟩, hbs, hEx⟩ := id C
  have haL : a ∈ L := (hL a).mpr (by omega)
  obtain ⟨q0, hq⟩ := gRel_at (f := gCell B.2.2.1 h) haL
  have hq0 := hq
  rw [gCell_j ha ht] at hq0
  refine va_last hx hcode hKK hP hD S q0 1 hq0 rfl hin hdg ?_
  intro H1 locs1 hP1 hD1 hS1
  refine kk p e s mi args below meth cd H1 locs1 cells slots ls C (gRel_put hL hD haL hq rfl (gCell_up ?_ (fun b hb => gCell_sJ b hb)) hP1 hD1 (hS1.base hbs)) hS1 hl
  rw [gCell_j (h := sJ h t a (vp_updL (hJ h t a) i.toNatClampNeg x)) (t := t) ha ht]; simp [hN_sA, hA_sA, hN_sJ, hJ_sJ, up2]
theorem gAr {B : gB} {h : gHp} {a t : Nat} (ha : hK h a = t) (ht : t = 12 ∨ t = 112 ∨ t = 14 ∨ t = 114 ∨ t = 15 ∨ t = 13 ∨ t = 113 ∨ t = 16) : ∃ (t0 : Nat) (cA : ClassId) (x : vp_A) (ty : FieldType), gCell B.2.2.1 h a = .inl (cA, x) ∧ x.1 = hN h a ∧ (gTy B)[t0]? = some (cA, ty) := by
  rcases ht with ht | ht | ht | ht | ht | ht | ht | ht
  · exact ⟨0, _, _, _, gCell_i ha (Or.inl ht), rfl, rfl⟩
  · exact ⟨0, _, _, _, gCell_i ha (Or.inr ht), rfl, rfl⟩
  · exact ⟨2, _, _, _, gCell_z ha (Or.inl ht), rfl, rfl⟩
  · exact ⟨2, _, _, _, gCell_z ha (Or.inr ht), rfl, rfl⟩
  · exact ⟨3, _, _, _, gCell_c ha ht, rfl, rfl⟩
  · exact ⟨1, _, _, _, gCell_j ha (Or.inl ht), rfl, rfl⟩
  · exact ⟨1, _, _, _, gCell_j ha (Or.inr ht), rfl, rfl⟩
  · subst ht; exact ⟨4, _, _, _, gCell_q ha, rfl, rfl⟩
theorem gG_alen {a t : Nat} (hdg : decode (gCd m) pc = .ok (.arraylength, 1)) (ht : t = 12 ∨ t = 112 ∨ t = 14 ∨ t = 114 ∨ t = 15 ∨ t = 13 ∨ t = 113 ∨ t = 16) (ha : hK h a = t) (kk : gG B m d c n (pc + 1) lv (.int (nI (hN h a)) :: st) h Q) : gG B m d c n pc lv (.ref a :: st) h Q := by
  intro p e s mi args below meth cd H locs cells slots ls C R S hl
  obtain ⟨L, hL, hP, hD, hb⟩ := id R
  obtain ⟨hx, hcode, hml, hr, hlo, hown, hnm, hts, ⟨hKK, hEE⟩, hbs, hEx⟩ := id C
  have haL : a ∈ L := (hL a).mpr (by omega)
  obtain ⟨q0, hq⟩ := gRel_at (f := gCell B.2.2.1 h) haL
  have hq0 := hq
  obtain ⟨t0, cA, x, ty, e1, e2, e3⟩ := gAr (B := B) ha ht
  rw [e1] at hq0
  refine va_alen hx hcode hKK hP q0 t0 hq0 e3 (v := nI (hN h a)) (by rw [e2]; rfl) hdg ?_
  exact kk p e s mi args below meth cd H locs cells slots ls C R S hl
/-- what 'new' and 'newarray' lay -/
theorem gRel_new {B : gB} {h h' : gHp} {H1 : Heap} {L : List Nat} {a : Nat} {e : va_E} (hL : ∀ a, a ∈ L ↔ hK h a ≠ 0) {t : Nat} (ht : t ≠ 0) (hk' : hK h' = va_up (hK h) a t) (he : hK h a = 0 → va_up (gCell B.2.2.1 h) a e = gCell B.2.2.1 h')
    (hP1 : va_P B.2.1 vwCl (va_pl L (gCell B.2.2.1 h) ++ [(a, e)]) H1) (hD1 : va_D (gA B) (va_pl L (gCell B.2.2.1 h) ++ [(a, e)])) (hz : B.2.2.2.1 ≤ H1.size) : hK h a = 0 ∧ gRel B h' H1 := by
  have haL : a ∉ L := by
    intro hm
    obtain ⟨k, hk⟩ := gRel_at (f := gCell B.2.2.1 h) hm
    have hlt : k < (va_pl L (gCell B.2.2.1 h)).length := (List.getElem?_eq_some_iff.mp hk).1
    have h1 : (va_pl L (gCell B.2.2.1 h) ++ [(a, e)])[k]? = some (a, gCell B.2.2.1 h a) := by rw [List.getElem?_append_left hlt]; exact hk
    have h2 : (va_pl L (gCell B.2.2.1 h) ++ [(a, e)])[(va_pl L (gCell B.2.2.1 h)).length]? = some (a, e) := by simp
    have := hD1.1 _ _ _ _ h1 h2 rfl
    omega
  have h0 : hK h a = 0 := by
    rcases Nat.eq_zero_or_pos (hK h a) with z | z
    · exact z
    · exact absurd ((hL a).mpr (by omega)) haL
  rw [va_pl_push haL, he h0] at hP1 hD1
  refine ⟨h0, L ++ [a], fun b => ?_, hP1, hD1, hz⟩
  rw [hk', va_up_eq, List.mem_append, hL b]
  by_cases hb : b = a
  · subst hb; simp [ht]
  · simp [hb]
def gBl (ci : Nat) : List Value := (List.range (gNf.getD ci 0)).map (fun k => if gIsR ci k then .null else .int 0)
theorem gFl_nO {h : gHp} {ci a : Nat} : gFl (nO h ci a) ci a = gBl ci := by
  unfold gFl gBl
  apply List.map_congr_left
  intro k _
  unfold gFv
  split <;> simp [hI_nO, hR_nO, va_rf]
theorem gG_new {ci idx : Nat} {q : vw_C} (hdg : decode (gCd m) pc = .ok (.new idx, 3)) (hcl : vwCl[ci]? = some q) (hc : ci < 11) (hbl : ∀ (ty : Nat → FieldType), (∀ k, k < q.2.2 → parseFieldDescriptor (q.2.1 k).2.2.1 = some (ty k)) → ∀ j, j < q.2.2 → defaultValue (ty j) = vp_V (gBl ci) j) (hw1 : Cond.classLink (gY m).cls idx q.1 ∈ lw_good) (hw2 : Cond.instantiable q.1 q.2.2 ∈ lw_good) (hw3 : Cond.initialized q.1 ∈ lw_good) (kk : ∀ a, hK h a = 0 → gG B m d c n (pc + 3) lv (.ref a :: st) (nO h ci a) Q) : gG B m d (c + 1) (n + q.2.2) pc lv st h Q := by
  intro p e s mi args below meth cd H locs cells slots ls C R S hl
  obtain ⟨L, hL, hP, hD, hb⟩ := id R
  obtain ⟨hx, hcode, hml, hr, hlo, hown, hnm, hts, ⟨hKK, hEE⟩, hbs, hEx⟩ := id C
  obtain ⟨C', T, N⟩ := q
  obtain ⟨ty0, hty0⟩ := gTyO hcl
  refine va_new hx hcode hts (gIn hcl) ty0 hty0 hown (hts _ hw1) (hts _ hw2) (hts _ hw3) hKK hP hD S (fun q hq => Nat.le_trans hbs hq) hcl (fs := gBl ci) (hbl ty0 hty0) (by simp only [gRm]; omega) (by simp only [gRm]; omega) hdg ?_
  intro a H1 hP1 hD1 hS1
  obtain ⟨h0, hR1⟩ := gRel_new (h' := nO h ci a) hL (t := ci + 1) (by omega) rfl (fun _ => gCell_up (by rw [gCell_o (c := ci) (by simp [hK_nO, va_up_eq]) hc, gFl_nO]) (fun b hb => gCell_nO b hb)) hP1 hD1 (hS1.base hbs)
  have K := kk a h0 p e s mi args below meth cd H1 locs (cells + 1) (slots + N) ls C hR1 hS1 hl
  rw [show cells + 1 + c = cells + (c + 1) by omega, show slots + N + n = slots + (n + N) by omega] at K
  exact K
theorem gG_newI {t N : Nat} {x : Int32} (hdg : decode (gCd m) pc = .ok (.newarray .int, 2)) (ht : t = 12 ∨ t = 112) (hw : Cond.arrayClass (newarray.typeOf .int) ∈ lw_good) (hx0 : ¬ x < 0) (hxN : x.toNatClampNeg = N) (hN : N ≤ 1000000) (kk : ∀ a, hK h a = 0 → gG B m d c n (pc + 2) lv (.ref a :: st) (nA h t a N) Q) : gG B m d (c + 1) (n + N) pc lv (.int x :: st) h Q := by
  intro p e s mi args below meth cd H locs cells slots ls C R S hl
  obtain ⟨L, hL, hP, hD, hb⟩ := id R
  obtain ⟨hx, hcode, hml, hr, hlo, hown, hnm, hts, ⟨hKK, hEE⟩, hbs, hEx⟩ := id C
  refine va_newa hx hcode (hts _ hw) rfl hKK hP hD S (fun q hq => Nat.le_trans hbs hq) (a0 := (N, .inl (fun _ => 0))) (fun cA => by rfl) hx0 hxN (by simp only [componentBytes, newarray.typeOf]; omega) (by simp only [gRm]; omega) (by simp only [gRm]; omega) hdg ?_
  intro a cA H1 hK1 hP1 hD1 hS1
  have hcA : cA = B.2.2.1 0 := by
    have e1 := (hK1.2 5 (cA, newarray.typeOf .int) rfl).2
    have e2 := (hK1.2 0 (B.2.2.1 0, newarray.typeOf .int) rfl).2
    exact Option.some.inj (e1.symm.trans e2)
  subst hcA
  obtain ⟨h0, hR1⟩ := gRel_new (h' := nA h t a N) hL (t := t) (by omega) rfl (fun _ => gCell_up (by rw [gCell_i (t := t) (by simp [hK_nA, va_up_eq]) ht]; simp [hN_nA, hA_nA, hJ_nA, va_up_eq, up2]) (fun b hb => gCell_nA b hb)) hP1 hD1 (hS1.base hbs)
  have K := kk a h0 p e s mi args below meth cd H1 locs (cells + 1) (slots + N) ls C hR1 hS1 hl
  rw [show cells + 1 + c = cells + (c + 1) by omega, show slots + N + n = slots + (n + N) by omega] at K
  exact K
theorem gG_newZ {t N : Nat} {x : Int32} (hdg : decode (gCd m) pc = .ok (.newarray .boolean, 2)) (ht : t = 14 ∨ t = 114) (hw : Cond.arrayClass (newarray.typeOf .boolean) ∈ lw_good) (hx0 : ¬ x < 0) (hxN : x.toNatClampNeg = N) (hN : N ≤ 1000000) (kk : ∀ a, hK h a = 0 → gG B m d c n (pc + 2) lv (.ref a :: st) (nA h t a N) Q) : gG B m d (c + 1) (n + N) pc lv (.int x :: st) h Q := by
  intro p e s mi args below meth cd H locs cells slots ls C R S hl
  obtain ⟨L, hL, hP, hD, hb⟩ := id R
  obtain ⟨hx, hcode, hml, hr, hlo, hown, hnm, hts, ⟨hKK, hEE⟩, hbs, hEx⟩ := id C
  refine va_newa hx hcode (hts _ hw) rfl hKK hP hD S (fun q hq => Nat.le_trans hbs hq) (a0 := (N, .inl (fun _ => 0))) (fun cA => by rfl) hx0 hxN (by simp only [componentBytes, newarray.typeOf]; omega) (by simp only [gRm]; omega) (by simp only [gRm]; omega) hdg ?_
  intro a cA H1 hK1 hP1 hD1 hS1
  have hcA : cA = B.2.2.1 2 := by
    have e1 := (hK1.2 5 (cA, newarray.typeOf .boolean) rfl).2
    have e2 := (hK1.2 2 (B.2.2.1 2, newarray.typeOf .boolean) rfl).2
    exact Option.some.inj (e1.symm.trans e2)
  subst hcA
  obtain ⟨h0, hR1⟩ := gRel_new (h' := nA h t a N) hL (t := t) (by omega) rfl (fun _ => gCell_up (by rw [gCell_z (t := t) (by simp [hK_nA, va_up_eq]) ht]; simp [hN_nA, hA_nA, hJ_nA, va_up_eq, up2]) (fun b hb => gCell_nA b hb)) hP1 hD1 (hS1.base hbs)
  have K := kk a h0 p e s mi args below meth cd H1 locs (cells + 1) (slots + N) ls C hR1 hS1 hl
  rw [show cells + 1 + c = cells + (c + 1) by omega, show slots + N + n = slots + (n + N) by omega] at K
  exact K
theorem gG_newC {t N : Nat} {x : Int32} (hdg : decode (gCd m) pc = .ok (.newarray .char, 2)) (ht : t = 15) (hw : Cond.arrayClass (newarray.typeOf .char) ∈ lw_good) (hx0 : ¬ x < 0) (hxN : x.toNatClampNeg = N) (hN : N ≤ 1000000) (kk : ∀ a, hK h a = 0 → gG B m d c n (pc + 2) lv (.ref a :: st) (nA h t a N) Q) : gG B m d (c + 1) (n + N) pc lv (.int x :: st) h Q := by
  intro p e s mi args below meth cd H locs cells slots ls C R S hl
  obtain ⟨L, hL, hP, hD, hb⟩ := id R
  obtain ⟨hx, hcode, hml, hr, hlo, hown, hnm, hts, ⟨hKK, hEE⟩, hbs, hEx⟩ := id C
  refine va_newa hx hcode (hts _ hw) rfl hKK hP hD S (fun q hq => Nat.le_trans hbs hq) (a0 := (N, .inl (fun _ => 0))) (fun cA => by rfl) hx0 hxN (by simp only [componentBytes, newarray.typeOf]; omega) (by simp only [gRm]; omega) (by simp only [gRm]; omega) hdg ?_
  intro a cA H1 hK1 hP1 hD1 hS1
  have hcA : cA = B.2.2.1 3 := by
    have e1 := (hK1.2 5 (cA, newarray.typeOf .char) rfl).2
    have e2 := (hK1.2 3 (B.2.2.1 3, newarray.typeOf .char) rfl).2
    exact Option.some.inj (e1.symm.trans e2)
  subst hcA
  obtain ⟨h0, hR1⟩ := gRel_new (h' := nA h t a N) hL (t := t) (by omega) rfl (fun _ => gCell_up (by rw [gCell_c (t := t) (by simp [hK_nA, va_up_eq]) ht]; simp [hN_nA, hA_nA, hJ_nA, va_up_eq, up2]) (fun b hb => gCell_nA b hb)) hP1 hD1 (hS1.base hbs)
  have K := kk a h0 p e s mi args below meth cd H1 locs (cells + 1) (slots + N) ls C hR1 hS1 hl
  rw [show cells + 1 + c = cells + (c + 1) by omega, show slots + N + n = slots + (n + N) by omega] at K
  exact K
theorem gG_newJ {t N : Nat} {x : Int32} (hdg : decode (gCd m) pc = .ok (.newarray .long, 2)) (ht : t = 13 ∨ t = 113) (hw : Cond.arrayClass (newarray.typeOf .long) ∈ lw_good) (hx0 : ¬ x < 0) (hxN : x.toNatClampNeg = N) (hN : N ≤ 1000000) (kk : ∀ a, hK h a = 0 → gG B m d c n (pc + 2) lv (.ref a :: st) (nA h t a N) Q) : gG B m d (c + 1) (n + N) pc lv (.int x :: st) h Q := by
  intro p e s mi args below meth cd H locs cells slots ls C R S hl
  obtain ⟨L, hL, hP, hD, hb⟩ := id R
  obtain ⟨hx, hcode, hml, hr, hlo, hown, hnm, hts, ⟨hKK, hEE⟩, hbs, hEx⟩ := id C
  refine va_newa hx hcode (hts _ hw) rfl hKK hP hD S (fun q hq => Nat.le_trans hbs hq) (a0 := (N, .inr (.inl (fun _ => 0)))) (fun cA => by rfl) hx0 hxN (by simp only [componentBytes, newarray.typeOf]; omega) (by simp only [gRm]; omega) (by simp only [gRm]; omega) hdg ?_
  intro a cA H1 hK1 hP1 hD1 hS1
  have hcA : cA = B.2.2.1 1 := by
    have e1 := (hK1.2 5 (cA, newarray.typeOf .long) rfl).2
    have e2 := (hK1.2 1 (B.2.2.1 1, newarray.typeOf .long) rfl).2
    exact Option.some.inj (e1.symm.trans e2)
  subst hcA
  obtain ⟨h0, hR1⟩ := gRel_new (h' := nA h t a N) hL (t := t) (by omega) rfl (fun _ => gCell_up (by rw [gCell_j (t := t) (by simp [hK_nA, va_up_eq]) ht]; simp [hN_nA, hA_nA, hJ_nA, va_up_eq, up2]) (fun b hb => gCell_nA b hb)) hP1 hD1 (hS1.base hbs)
  have K := kk a h0 p e s mi args below meth cd H1 locs (cells + 1) (slots + N) ls C hR1 hS1 hl
  rw [show cells + 1 + c = cells + (c + 1) by omega, show slots + N + n = slots + (n + N) by omega] at K
  exact K
theorem gG_ckc {ci idx a : Nat} {q : vw_C} (hdg : decode (gCd m) pc = .ok (.checkcast idx, 3)) (hcl : vwCl[ci]? = some q) (hc : ci < 11) (hw : Cond.classLink (gY m).cls idx q.1 ∈ lw_good) (ha : hK h a = ci + 1) (kk : gG B m d c n (pc + 3) lv (.ref a :: st) h Q) : gG B m d c n pc lv (.ref a :: st) h Q := by
  intro p e s mi args below meth cd H locs cells slots ls C R S hl
  obtain ⟨L, hL, hP, hD, hb⟩ := id R
  obtain ⟨hx, hcode, hml, hr, hlo, hown, hnm, hts, ⟨hKK, hEE⟩, hbs, hEx⟩ := id C
  have haL : a ∈ L := (hL a).mpr (by omega)
  obtain ⟨q0, hq⟩ := gRel_at (f := gCell B.2.2.1 h) haL
  have hq0 := hq
  rw [gCell_o ha hc] at hq0
  exact va_castS hx hcode hown (hts _ hw) (hKK.1 ci q hcl).2 (va_recv hKK hP hcl hq0) hdg (kk p e s mi args below meth cd H locs cells slots ls C R S hl)
theorem gG_iret {v : Int32} {ty : FieldType} (hdg : decode (gCd m) pc = .ok (.ireturn, 1)) (hr : gRt m = some ty) (hn : narrow ty (.int v) = .int v) (hq : Q (some (.int v)) h) : gG B m d c n pc lv [.int v] h Q := by
  intro p e s mi args below meth cd H locs cells slots ls C R S hl
  refine W.widen (k := cells + c) (n := slots + n) (by omega) (by omega) ?_
  exact W.zret C.1 C.2.1 (C.2.2.2.1.trans hr) hn (fun t ht _ => ⟨⟨_, _, rfl, hq, by rw [ht]; exact R⟩, S.F ht⟩) S.2.2 hdg C.2.2.2.2.1
theorem gG_vret (hdg : decode (gCd m) pc = .ok (.return_, 1)) (hr : gRt m = none) (hq : Q none h) : gG B m d c n pc lv [] h Q := by
  intro p e s mi args below meth cd H locs cells slots ls C R S hl
  refine W.widen (k := cells + c) (n := slots + n) (by omega) (by omega) ?_
  exact W.vret C.1 C.2.1 (C.2.2.2.1.trans hr) (fun t ht _ => ⟨⟨_, _, rfl, hq, by rw [ht]; exact R⟩, S.F ht⟩) S.2.2 hdg C.2.2.2.2.1
theorem gG_aret {v : Value} {rt : FieldType} (hdg : decode (gCd m) pc = .ok (.areturn, 1)) (hr : gRt m = some rt) (hrt : (∃ k, rt = .object k) ∨ ∃ t, rt = .array t) (hv : v = .null ∨ ∃ a, v = .ref a) (hq : Q (some v) h) : gG B m d c n pc lv [v] h Q := by
  intro p e s mi args below meth cd H locs cells slots ls C R S hl
  refine W.widen (k := cells + c) (n := slots + n) (by omega) (by omega) ?_
  exact W.aret C.1 C.2.1 (C.2.2.2.1.trans hr) hrt hv (fun t ht _ => ⟨⟨_, _, rfl, hq, by rw [ht]; exact R⟩, S.F ht⟩) S.2.2 hdg C.2.2.2.2.1
end GR
