/-! THE SAME IN STEPS: ax stops behind every call; a row for each instruction, to rewrite with -/
def gIsC (i : Instr) : Bool := match i with
  | .invokevirtual _ => true
  | .invokestatic _ => true
  | .invokespecial _ => true
  | _ => false
def lvLive (cut : List (Nat × List Nat)) (pc : Nat) (lv : List (Nat × Value)) : List (Nat × Value) := match cutAt cut pc with
  | some live => lv.filter (fun q => live.contains q.1)
  | none => lv
def ax (F : Nat → gM) (B : gB) (m : gM) (d : Nat) (cut : List (Nat × List Nat)) (Q : Option Value → gHp → Prop) : Nat → gKo
  | 0 => fun c n pc lv st h => gG B m (d + 1) c n pc lv st h Q
  | k + 1 => fun c n pc lv st h => match gAt m pc with
    | none => False
    | some e => awS F B m d (fun c n pc lv st h => if gIsC e.1 = true ∨ (cutAt cut pc).isSome = true then gG B m (d + 1) c n pc (if gIsC e.1 = true then lv else lvLive cut pc lv) st h Q else ax F B m d cut Q k c n pc lv st h) Q e c n pc lv st h
def axC (F : Nat → gM) (B : gB) (m : gM) (d : Nat) (cut : List (Nat × List Nat)) (Q : Option Value → gHp → Prop) (k : Nat) : gKo := fun c n pc lv st h => if (cutAt cut pc).isSome = true then gG B m (d + 1) c n pc (lvLive cut pc lv) st h Q else ax F B m d cut Q k c n pc lv st h
theorem ax_sound {F : Nat → gM} {N : Nat} {B : gB} {m : gM} {d : Nat} {cut : List (Nat × List Nat)} {Q : Option Value → gHp → Prop}
    (h0 : ∀ r, r < N → (gIx (F r)).1 = 0 → gVok (F r)) (h1 : ∀ r, r < N → (gIx (F r)).1 = 1 → gSok (F r)) (h2 : ∀ r, r < N → (gIx (F r)).1 = 2 → gIok (F r)) (ho : Cond.instanceMethod Lib.objectInit ∈ lw_good ∧ Cond.code Lib.objectInit ⟨#[0xb1]⟩ 1 none ∈ lw_good)
    (hok : (gTb m).all (okE F N m) = true) (k : Nat) : ∀ {c n pc : Nat} {lv : List (Nat × Value)} {st : List Value} {h : gHp}, ax F B m d cut Q k c n pc lv st h → gG B m (d + 1) c n pc lv st h Q := by
  induction k with
  | zero => intro c n pc lv st h hs; exact hs
  | succ k ih =>
    intro c n pc lv st h hs
    unfold ax at hs
    split at hs
    · exact hs.elim
    · rename_i e he
      refine awS_sound h0 h1 h2 ho (List.all_eq_true.mp hok _ (lookup_mem he)) ?_ hs
      intro c n pc lv st h hz
      split at hz
      · refine gG_sub (fun q hq => ?_) hz
        split at hq
        · exact hq
        · unfold lvLive at hq
          split at hq
          · exact (List.mem_filter.mp hq).1
          · exact hq
      · exact ih hz
def isI : Option Value → Prop
  | some (.int _) => True
  | _ => False
def isL : Option Value → Prop
  | some (.long _) => True
  | _ => False
def isRf : Option Value → Prop
  | some (.ref _) => True
  | some .null => True
  | _ => False
def gtI : Option Value → Int32
  | some (.int x) => x
  | _ => 0
def gtL : Option Value → Int64
  | some (.long x) => x
  | _ => 0
def gtV : Option Value → Value
  | some v => v
  | _ => .null
theorem isI_s (x : Int32) : isI (some (.int x)) = True := rfl
theorem isL_s (x : Int64) : isL (some (.long x)) = True := rfl
theorem isRf_s (x : Nat) : isRf (some (.ref x)) = True := rfl
theorem isRf_n : isRf (some .null) = True := rfl
theorem gtI_s (x : Int32) : gtI (some (.int x)) = x := rfl
theorem gtL_s (x : Int64) : gtL (some (.long x)) = x := rfl
theorem gtV_s (v : Value) : gtV (some v) = v := rfl
section AX
variable {F : Nat → gM} {B : gB} {m : gM} {d : Nat} {cut : List (Nat × List Nat)} {Q : Option Value → gHp → Prop} {k c n pc len r1 r2 r3 ix : Nat} {lv : List (Nat × Value)} {st : List Value} {h : gHp}
theorem ax_at {e : gE} (hc : gIsC e.1 = false) (t : gAt m pc = some e) : ax F B m d cut Q (k + 1) c n pc lv st h = awS F B m d (axC F B m d cut Q k) Q e c n pc lv st h := by
  unfold ax
  simp only [t, hc]
  congr 1
  funext c n pc lv st h
  simp [axC]
theorem ax_atC {e : gE} (hc : gIsC e.1 = true) (t : gAt m pc = some e) : ax F B m d cut Q (k + 1) c n pc lv st h = awS F B m d (fun c n pc lv st h => gG B m (d + 1) c n pc lv st h Q) Q e c n pc lv st h := by
  unfold ax
  simp only [t, hc]
  congr 1
theorem axC_nil : axC F B m d [] Q k c n pc lv st h = ax F B m d [] Q k c n pc lv st h := rfl
theorem axC_hit {live : List Nat} {l : List (Nat × List Nat)} : axC F B m d ((pc, live) :: l) Q k c n pc lv st h = gG B m (d + 1) c n pc (lv.filter (fun q => live.contains q.1)) st h Q := by
  simp [axC, lvLive, cutAt]
theorem axC_def : axC F B m d cut Q k c n pc lv st h = if (cutAt cut pc).isSome = true then gG B m (d + 1) c n pc (lvLive cut pc lv) st h Q else ax F B m d cut Q k c n pc lv st h := rfl
theorem ax_iconst {v : Int} (t : gAt m pc = some (.iconst v, len, r1, r2, r3, ix)) : ax F B m d cut Q (k + 1) c n pc lv (st) h = (axC F B m d cut Q k c n (pc + 1) (lv) (.int (gLit r1 r2) :: st) (h)) := by
  rw [ax_at rfl t]
  rfl
theorem ax_bipush {v : Int} (t : gAt m pc = some (.bipush v, len, r1, r2, r3, ix)) : ax F B m d cut Q (k + 1) c n pc lv (st) h = (axC F B m d cut Q k c n (pc + 2) (lv) (.int (gLit r1 r2) :: st) (h)) := by
  rw [ax_at rfl t]
  rfl
theorem ax_sipush {v : Int} (t : gAt m pc = some (.sipush v, len, r1, r2, r3, ix)) : ax F B m d cut Q (k + 1) c n pc lv (st) h = (axC F B m d cut Q k c n (pc + 3) (lv) (.int (gLit r1 r2) :: st) (h)) := by
  rw [ax_at rfl t]
  rfl
theorem ax_ldc {v : Nat} (t : gAt m pc = some (.ldc v, len, r1, r2, 0, ix)) : ax F B m d cut Q (k + 1) c n pc lv st h = (axC F B m d cut Q k c n (pc + 2) (lv) (.int (gLit r1 r2) :: st) (h)) := by
  rw [ax_at rfl t]; rfl
theorem ax_ldc2_w {v : Nat} (t : gAt m pc = some (.ldc2_w v, len, r1, r2, r3, ix)) : ax F B m d cut Q (k + 1) c n pc lv (st) h = (axC F B m d cut Q k c n (pc + 3) (lv) (.long (lN r1) :: st) (h)) := by
  rw [ax_at rfl t]
  rfl
theorem ax_lconst {v : Fin 2} (t : gAt m pc = some (.lconst v, len, r1, r2, r3, ix)) : ax F B m d cut Q (k + 1) c n pc lv (st) h = (axC F B m d cut Q k c n (pc + 1) (lv) (.long (lN v.val) :: st) (h)) := by
  rw [ax_at rfl t]
  rfl
theorem ax_aconst_null  (t : gAt m pc = some (.aconst_null, len, r1, r2, r3, ix)) : ax F B m d cut Q (k + 1) c n pc lv (st) h = (axC F B m d cut Q k c n (pc + 1) (lv) (.null :: st) (h)) := by
  rw [ax_at rfl t]
  rfl
theorem ax_iload_n {i : Fin 4} (t : gAt m pc = some (.iload_n i, len, r1, r2, r3, ix)) : ax F B m d cut Q (k + 1) c n pc lv st h = (isI (lvGet lv i.val) ∧ axC F B m d cut Q k c n (pc + 1) (lv) (.int (gtI (lvGet lv i.val)) :: st) (h)) := by
  rw [ax_at rfl t]
  simp only [awS, kLdI]
  cases hv : lvGet lv i.val with
  | none => simp [isI]
  | some v => cases v <;> simp [isI, gtI]
theorem ax_iload {i : Nat} (t : gAt m pc = some (.iload i, len, r1, r2, r3, ix)) : ax F B m d cut Q (k + 1) c n pc lv st h = (isI (lvGet lv i) ∧ axC F B m d cut Q k c n (pc + 2) (lv) (.int (gtI (lvGet lv i)) :: st) (h)) := by
  rw [ax_at rfl t]
  simp only [awS, kLdI]
  cases hv : lvGet lv i with
  | none => simp [isI]
  | some v => cases v <;> simp [isI, gtI]
theorem ax_lload_n {i : Fin 4} (t : gAt m pc = some (.lload_n i, len, r1, r2, r3, ix)) : ax F B m d cut Q (k + 1) c n pc lv st h = (isL (lvGet lv i.val) ∧ axC F B m d cut Q k c n (pc + 1) (lv) (.long (gtL (lvGet lv i.val)) :: st) (h)) := by
  rw [ax_at rfl t]
  simp only [awS, kLdL]
  cases hv : lvGet lv i.val with
  | none => simp [isL]
  | some v => cases v <;> simp [isL, gtL]
theorem ax_lload {i : Nat} (t : gAt m pc = some (.lload i, len, r1, r2, r3, ix)) : ax F B m d cut Q (k + 1) c n pc lv st h = (isL (lvGet lv i) ∧ axC F B m d cut Q k c n (pc + 2) (lv) (.long (gtL (lvGet lv i)) :: st) (h)) := by
  rw [ax_at rfl t]
  simp only [awS, kLdL]
  cases hv : lvGet lv i with
  | none => simp [isL]
  | some v => cases v <;> simp [isL, gtL]
theorem ax_aload_n {i : Fin 4} (t : gAt m pc = some (.aload_n i, len, r1, r2, r3, ix)) : ax F B m d cut Q (k + 1) c n pc lv st h = (isRf (lvGet lv i.val) ∧ axC F B m d cut Q k c n (pc + 1) (lv) ((gtV (lvGet lv i.val)) :: st) (h)) := by
  rw [ax_at rfl t]
  simp only [awS, kLdR]
  cases hv : lvGet lv i.val with
  | none => simp [isRf]
  | some v => cases v <;> simp [isRf, gtV]
theorem ax_aload {i : Nat} (t : gAt m pc = some (.aload i, len, r1, r2, r3, ix)) : ax F B m d cut Q (k + 1) c n pc lv st h = (isRf (lvGet lv i) ∧ axC F B m d cut Q k c n (pc + 2) (lv) ((gtV (lvGet lv i)) :: st) (h)) := by
  rw [ax_at rfl t]
  simp only [awS, kLdR]
  cases hv : lvGet lv i with
  | none => simp [isRf]
  | some v => cases v <;> simp [isRf, gtV]
theorem ax_iinc {i : Nat} {v : Int} (t : gAt m pc = some (.iinc i v, len, r1, r2, r3, ix)) : ax F B m d cut Q (k + 1) c n pc lv st h = (isI (lvGet lv i) ∧ axC F B m d cut Q k c n (pc + 3) (lvSet1 lv i (.int (gtI (lvGet lv i) + gLit r1 r2))) (st) (h)) := by
  rw [ax_at rfl t]
  simp only [awS, kLdI]
  cases hv : lvGet lv i with
  | none => simp [isI]
  | some v => cases v <;> simp [isI, gtI]
theorem ax_istore_n {i : Fin 4} {x : Int32} (t : gAt m pc = some (.istore_n i, len, r1, r2, r3, ix)) : ax F B m d cut Q (k + 1) c n pc lv (.int x :: st) h = (axC F B m d cut Q k c n (pc + 1) (lvSet1 lv i.val (.int x)) (st) (h)) := by
  rw [ax_at rfl t]
  rfl
theorem ax_istore {i : Nat} {x : Int32} (t : gAt m pc = some (.istore i, len, r1, r2, r3, ix)) : ax F B m d cut Q (k + 1) c n pc lv (.int x :: st) h = (axC F B m d cut Q k c n (pc + 2) (lvSet1 lv i (.int x)) (st) (h)) := by
  rw [ax_at rfl t]
  rfl
theorem ax_lstore {i : Nat} {x : Int64} (t : gAt m pc = some (.lstore i, len, r1, r2, r3, ix)) : ax F B m d cut Q (k + 1) c n pc lv (.long x :: st) h = (axC F B m d cut Q k c n (pc + 2) (lvSet2 lv i (.long x)) (st) (h)) := by
  rw [ax_at rfl t]
  rfl
theorem ax_astore_nR {i : Fin 4} {x : Nat} (t : gAt m pc = some (.astore_n i, len, r1, r2, r3, ix)) : ax F B m d cut Q (k + 1) c n pc lv (.ref x :: st) h = (axC F B m d cut Q k c n (pc + 1) (lvSet1 lv i.val (.ref x)) (st) (h)) := by
  rw [ax_at rfl t]
  rfl
theorem ax_astoreR {i x : Nat} (t : gAt m pc = some (.astore i, len, r1, r2, r3, ix)) : ax F B m d cut Q (k + 1) c n pc lv (.ref x :: st) h = (axC F B m d cut Q k c n (pc + 2) (lvSet1 lv i (.ref x)) (st) (h)) := by
  rw [ax_at rfl t]
  rfl
theorem ax_astore_nN {i : Fin 4} (t : gAt m pc = some (.astore_n i, len, r1, r2, r3, ix)) : ax F B m d cut Q (k + 1) c n pc lv (.null :: st) h = (axC F B m d cut Q k c n (pc + 1) (lvSet1 lv i.val (.null)) (st) (h)) := by
  rw [ax_at rfl t]
  rfl
theorem ax_astoreN {i : Nat} (t : gAt m pc = some (.astore i, len, r1, r2, r3, ix)) : ax F B m d cut Q (k + 1) c n pc lv (.null :: st) h = (axC F B m d cut Q k c n (pc + 2) (lvSet1 lv i (.null)) (st) (h)) := by
  rw [ax_at rfl t]
  rfl
theorem ax_iadd {x y : Int32} (t : gAt m pc = some (.iadd, len, r1, r2, r3, ix)) : ax F B m d cut Q (k + 1) c n pc lv (.int y :: .int x :: st) h = (axC F B m d cut Q k c n (pc + 1) (lv) (.int (x + y) :: st) (h)) := by
  rw [ax_at rfl t]
  rfl
theorem ax_isub {x y : Int32} (t : gAt m pc = some (.isub, len, r1, r2, r3, ix)) : ax F B m d cut Q (k + 1) c n pc lv (.int y :: .int x :: st) h = (axC F B m d cut Q k c n (pc + 1) (lv) (.int (x - y) :: st) (h)) := by
  rw [ax_at rfl t]
  rfl
theorem ax_imul {x y : Int32} (t : gAt m pc = some (.imul, len, r1, r2, r3, ix)) : ax F B m d cut Q (k + 1) c n pc lv (.int y :: .int x :: st) h = (axC F B m d cut Q k c n (pc + 1) (lv) (.int (x * y) :: st) (h)) := by
  rw [ax_at rfl t]
  rfl
theorem ax_iand {x y : Int32} (t : gAt m pc = some (.iand, len, r1, r2, r3, ix)) : ax F B m d cut Q (k + 1) c n pc lv (.int y :: .int x :: st) h = (axC F B m d cut Q k c n (pc + 1) (lv) (.int (x &&& y) :: st) (h)) := by
  rw [ax_at rfl t]
  rfl
theorem ax_ior {x y : Int32} (t : gAt m pc = some (.ior, len, r1, r2, r3, ix)) : ax F B m d cut Q (k + 1) c n pc lv (.int y :: .int x :: st) h = (axC F B m d cut Q k c n (pc + 1) (lv) (.int (x ||| y) :: st) (h)) := by
  rw [ax_at rfl t]
  rfl
theorem ax_ixor {x y : Int32} (t : gAt m pc = some (.ixor, len, r1, r2, r3, ix)) : ax F B m d cut Q (k + 1) c n pc lv (.int y :: .int x :: st) h = (axC F B m d cut Q k c n (pc + 1) (lv) (.int (x ^^^ y) :: st) (h)) := by
  rw [ax_at rfl t]
  rfl
theorem ax_ishl {x y : Int32} (t : gAt m pc = some (.ishl, len, r1, r2, r3, ix)) : ax F B m d cut Q (k + 1) c n pc lv (.int y :: .int x :: st) h = (axC F B m d cut Q k c n (pc + 1) (lv) (.int (x <<< (y &&& 31)) :: st) (h)) := by
  rw [ax_at rfl t]
  rfl
theorem ax_ishr {x y : Int32} (t : gAt m pc = some (.ishr, len, r1, r2, r3, ix)) : ax F B m d cut Q (k + 1) c n pc lv (.int y :: .int x :: st) h = (axC F B m d cut Q k c n (pc + 1) (lv) (.int (x >>> (y &&& 31)) :: st) (h)) := by
  rw [ax_at rfl t]
  rfl
theorem ax_iushr {x y : Int32} (t : gAt m pc = some (.iushr, len, r1, r2, r3, ix)) : ax F B m d cut Q (k + 1) c n pc lv (.int y :: .int x :: st) h = (axC F B m d cut Q k c n (pc + 1) (lv) (.int ((x.toUInt32 >>> (y.toUInt32 &&& Int32.toUInt32 31)).toInt32) :: st) (h)) := by
  rw [ax_at rfl t]
  rfl
theorem ax_irem {x y : Int32} (t : gAt m pc = some (.irem, len, r1, r2, r3, ix)) : ax F B m d cut Q (k + 1) c n pc lv (.int y :: .int x :: st) h = (¬ y = 0 ∧ axC F B m d cut Q k c n (pc + 1) (lv) (.int (x - x / y * y) :: st) (h)) := by
  rw [ax_at rfl t]
  rfl
theorem ax_ladd {x y : Int64} (t : gAt m pc = some (.ladd, len, r1, r2, r3, ix)) : ax F B m d cut Q (k + 1) c n pc lv (.long y :: .long x :: st) h = (axC F B m d cut Q k c n (pc + 1) (lv) (.long (x + y) :: st) (h)) := by
  rw [ax_at rfl t]
  rfl
theorem ax_lsub {x y : Int64} (t : gAt m pc = some (.lsub, len, r1, r2, r3, ix)) : ax F B m d cut Q (k + 1) c n pc lv (.long y :: .long x :: st) h = (axC F B m d cut Q k c n (pc + 1) (lv) (.long (x - y) :: st) (h)) := by
  rw [ax_at rfl t]
  rfl
theorem ax_lmul {x y : Int64} (t : gAt m pc = some (.lmul, len, r1, r2, r3, ix)) : ax F B m d cut Q (k + 1) c n pc lv (.long y :: .long x :: st) h = (axC F B m d cut Q k c n (pc + 1) (lv) (.long (x * y) :: st) (h)) := by
  rw [ax_at rfl t]
  rfl
theorem ax_land {x y : Int64} (t : gAt m pc = some (.land, len, r1, r2, r3, ix)) : ax F B m d cut Q (k + 1) c n pc lv (.long y :: .long x :: st) h = (axC F B m d cut Q k c n (pc + 1) (lv) (.long (x &&& y) :: st) (h)) := by
  rw [ax_at rfl t]
  rfl
theorem ax_lor {x y : Int64} (t : gAt m pc = some (.lor, len, r1, r2, r3, ix)) : ax F B m d cut Q (k + 1) c n pc lv (.long y :: .long x :: st) h = (axC F B m d cut Q k c n (pc + 1) (lv) (.long (x ||| y) :: st) (h)) := by
  rw [ax_at rfl t]
  rfl
theorem ax_lshl {x : Int64} {y : Int32} (t : gAt m pc = some (.lshl, len, r1, r2, r3, ix)) : ax F B m d cut Q (k + 1) c n pc lv (.int y :: .long x :: st) h = (axC F B m d cut Q k c n (pc + 1) (lv) (.long (x <<< (y.toInt64 &&& 63)) :: st) (h)) := by
  rw [ax_at rfl t]
  rfl
theorem ax_lshr {x : Int64} {y : Int32} (t : gAt m pc = some (.lshr, len, r1, r2, r3, ix)) : ax F B m d cut Q (k + 1) c n pc lv (.int y :: .long x :: st) h = (axC F B m d cut Q k c n (pc + 1) (lv) (.long (x >>> (y.toInt64 &&& 63)) :: st) (h)) := by
  rw [ax_at rfl t]
  rfl
theorem ax_lushr {x : Int64} {y : Int32} (t : gAt m pc = some (.lushr, len, r1, r2, r3, ix)) : ax F B m d cut Q (k + 1) c n pc lv (.int y :: .long x :: st) h = (axC F B m d cut Q k c n (pc + 1) (lv) (.long ((x.toUInt64 >>> (y.toInt64.toUInt64 &&& Int64.toUInt64 63)).toInt64) :: st) (h)) := by
  rw [ax_at rfl t]
  rfl
theorem ax_lcmp {x y : Int64} (t : gAt m pc = some (.lcmp, len, r1, r2, r3, ix)) : ax F B m d cut Q (k + 1) c n pc lv (.long y :: .long x :: st) h = (axC F B m d cut Q k c n (pc + 1) (lv) (.int (lg_cmp x y) :: st) (h)) := by
  rw [ax_at rfl t]
  rfl
theorem ax_i2l {x : Int32} (t : gAt m pc = some (.i2l, len, r1, r2, r3, ix)) : ax F B m d cut Q (k + 1) c n pc lv (.int x :: st) h = (axC F B m d cut Q k c n (pc + 1) (lv) (.long x.toInt64 :: st) (h)) := by
  rw [ax_at rfl t]
  rfl
theorem ax_l2i {x : Int64} (t : gAt m pc = some (.l2i, len, r1, r2, r3, ix)) : ax F B m d cut Q (k + 1) c n pc lv (.long x :: st) h = (axC F B m d cut Q k c n (pc + 1) (lv) (.int x.toInt32 :: st) (h)) := by
  rw [ax_at rfl t]
  rfl
theorem ax_i2c {x : Int32} (t : gAt m pc = some (.i2c, len, r1, r2, r3, ix)) : ax F B m d cut Q (k + 1) c n pc lv (.int x :: st) h = (axC F B m d cut Q k c n (pc + 1) (lv) (.int (x.toUInt32 % 65536).toInt32 :: st) (h)) := by
  rw [ax_at rfl t]
  rfl
theorem ax_dup {v : Value} (t : gAt m pc = some (.dup, len, r1, r2, r3, ix)) : ax F B m d cut Q (k + 1) c n pc lv (v :: st) h = (v.category = 1 ∧ axC F B m d cut Q k c n (pc + 1) (lv) (v :: v :: st) (h)) := by
  rw [ax_at rfl t]
  rfl
theorem ax_pop {v : Value} (t : gAt m pc = some (.pop, len, r1, r2, r3, ix)) : ax F B m d cut Q (k + 1) c n pc lv (v :: st) h = (v.category = 1 ∧ axC F B m d cut Q k c n (pc + 1) (lv) (st) (h)) := by
  rw [ax_at rfl t]
  rfl
theorem ax_dup_x1 {v w : Value} (t : gAt m pc = some (.dup_x1, len, r1, r2, r3, ix)) : ax F B m d cut Q (k + 1) c n pc lv (v :: w :: st) h = (v.category = 1 ∧ w.category = 1 ∧ axC F B m d cut Q k c n (pc + 1) (lv) (v :: w :: v :: st) (h)) := by
  rw [ax_at rfl t]
  rfl
theorem ax_dup2 {v w : Value} (t : gAt m pc = some (.dup2, len, r1, r2, r3, ix)) : ax F B m d cut Q (k + 1) c n pc lv (v :: w :: st) h = (v.category = 1 ∧ w.category = 1 ∧ axC F B m d cut Q k c n (pc + 1) (lv) (v :: w :: v :: w :: st) (h)) := by
  rw [ax_at rfl t]
  rfl
theorem ax_goto {v : Int} (t : gAt m pc = some (.goto v, len, r1, r2, r3, ix)) : ax F B m d cut Q (k + 1) c n pc lv (st) h = (axC F B m d cut Q k c n r1 (lv) (st) (h)) := by
  rw [ax_at rfl t]
  rfl
theorem ax_if_eq {v : Int} {x : Int32} (t : gAt m pc = some (.ifCond .eq v, len, r1, r2, r3, ix)) : ax F B m d cut Q (k + 1) c n pc lv (.int x :: st) h = (((x = 0) → axC F B m d cut Q k c n r1 (lv) (st) (h)) ∧ ((¬ x = 0) → axC F B m d cut Q k c n (pc + 3) (lv) (st) (h))) := by
  rw [ax_at rfl t]
  rfl
theorem ax_icmp_eq {v : Int} {x y : Int32} (t : gAt m pc = some (.if_icmp .eq v, len, r1, r2, r3, ix)) : ax F B m d cut Q (k + 1) c n pc lv (.int y :: .int x :: st) h = (((x = y) → axC F B m d cut Q k c n r1 (lv) (st) (h)) ∧ ((¬ x = y) → axC F B m d cut Q k c n (pc + 3) (lv) (st) (h))) := by
  rw [ax_at rfl t]
  rfl
theorem ax_if_ne {v : Int} {x : Int32} (t : gAt m pc = some (.ifCond .ne v, len, r1, r2, r3, ix)) : ax F B m d cut Q (k + 1) c n pc lv (.int x :: st) h = (((¬ x = 0) → axC F B m d cut Q k c n r1 (lv) (st) (h)) ∧ ((x = 0) → axC F B m d cut Q k c n (pc + 3) (lv) (st) (h))) := by
  rw [ax_at rfl t]
  rfl
theorem ax_icmp_ne {v : Int} {x y : Int32} (t : gAt m pc = some (.if_icmp .ne v, len, r1, r2, r3, ix)) : ax F B m d cut Q (k + 1) c n pc lv (.int y :: .int x :: st) h = (((¬ x = y) → axC F B m d cut Q k c n r1 (lv) (st) (h)) ∧ ((x = y) → axC F B m d cut Q k c n (pc + 3) (lv) (st) (h))) := by
  rw [ax_at rfl t]
  rfl
theorem ax_if_lt {v : Int} {x : Int32} (t : gAt m pc = some (.ifCond .lt v, len, r1, r2, r3, ix)) : ax F B m d cut Q (k + 1) c n pc lv (.int x :: st) h = (((x < 0) → axC F B m d cut Q k c n r1 (lv) (st) (h)) ∧ ((¬ x < 0) → axC F B m d cut Q k c n (pc + 3) (lv) (st) (h))) := by
  rw [ax_at rfl t]
  rfl
theorem ax_icmp_lt {v : Int} {x y : Int32} (t : gAt m pc = some (.if_icmp .lt v, len, r1, r2, r3, ix)) : ax F B m d cut Q (k + 1) c n pc lv (.int y :: .int x :: st) h = (((x < y) → axC F B m d cut Q k c n r1 (lv) (st) (h)) ∧ ((¬ x < y) → axC F B m d cut Q k c n (pc + 3) (lv) (st) (h))) := by
  rw [ax_at rfl t]
  rfl
theorem ax_if_ge {v : Int} {x : Int32} (t : gAt m pc = some (.ifCond .ge v, len, r1, r2, r3, ix)) : ax F B m d cut Q (k + 1) c n pc lv (.int x :: st) h = (((0 ≤ x) → axC F B m d cut Q k c n r1 (lv) (st) (h)) ∧ ((¬ 0 ≤ x) → axC F B m d cut Q k c n (pc + 3) (lv) (st) (h))) := by
  rw [ax_at rfl t]
  rfl
theorem ax_icmp_ge {v : Int} {x y : Int32} (t : gAt m pc = some (.if_icmp .ge v, len, r1, r2, r3, ix)) : ax F B m d cut Q (k + 1) c n pc lv (.int y :: .int x :: st) h = (((y ≤ x) → axC F B m d cut Q k c n r1 (lv) (st) (h)) ∧ ((¬ y ≤ x) → axC F B m d cut Q k c n (pc + 3) (lv) (st) (h))) := by
  rw [ax_at rfl t]
  rfl
theorem ax_if_gt {v : Int} {x : Int32} (t : gAt m pc = some (.ifCond .gt v, len, r1, r2, r3, ix)) : ax F B m d cut Q (k + 1) c n pc lv (.int x :: st) h = (((0 < x) → axC F B m d cut Q k c n r1 (lv) (st) (h)) ∧ ((¬ 0 < x) → axC F B m d cut Q k c n (pc + 3) (lv) (st) (h))) := by
  rw [ax_at rfl t]
  rfl
theorem ax_icmp_gt {v : Int} {x y : Int32} (t : gAt m pc = some (.if_icmp .gt v, len, r1, r2, r3, ix)) : ax F B m d cut Q (k + 1) c n pc lv (.int y :: .int x :: st) h = (((y < x) → axC F B m d cut Q k c n r1 (lv) (st) (h)) ∧ ((¬ y < x) → axC F B m d cut Q k c n (pc + 3) (lv) (st) (h))) := by
  rw [ax_at rfl t]
  rfl
theorem ax_if_le {v : Int} {x : Int32} (t : gAt m pc = some (.ifCond .le v, len, r1, r2, r3, ix)) : ax F B m d cut Q (k + 1) c n pc lv (.int x :: st) h = (((x ≤ 0) → axC F B m d cut Q k c n r1 (lv) (st) (h)) ∧ ((¬ x ≤ 0) → axC F B m d cut Q k c n (pc + 3) (lv) (st) (h))) := by
  rw [ax_at rfl t]
  rfl
theorem ax_icmp_le {v : Int} {x y : Int32} (t : gAt m pc = some (.if_icmp .le v, len, r1, r2, r3, ix)) : ax F B m d cut Q (k + 1) c n pc lv (.int y :: .int x :: st) h = (((x ≤ y) → axC F B m d cut Q k c n r1 (lv) (st) (h)) ∧ ((¬ x ≤ y) → axC F B m d cut Q k c n (pc + 3) (lv) (st) (h))) := by
  rw [ax_at rfl t]
  rfl
theorem ax_ifnullR {v : Int} {x : Nat} (t : gAt m pc = some (.ifnull v, len, r1, r2, r3, ix)) : ax F B m d cut Q (k + 1) c n pc lv (.ref x :: st) h = (axC F B m d cut Q k c n (pc + 3) (lv) (st) (h)) := by
  rw [ax_at rfl t]
  rfl
theorem ax_ifnullN {v : Int} (t : gAt m pc = some (.ifnull v, len, r1, r2, r3, ix)) : ax F B m d cut Q (k + 1) c n pc lv (.null :: st) h = (axC F B m d cut Q k c n r1 (lv) (st) (h)) := by
  rw [ax_at rfl t]
  rfl
theorem ax_ifnonnullR {v : Int} {x : Nat} (t : gAt m pc = some (.ifnonnull v, len, r1, r2, r3, ix)) : ax F B m d cut Q (k + 1) c n pc lv (.ref x :: st) h = (axC F B m d cut Q k c n r1 (lv) (st) (h)) := by
  rw [ax_at rfl t]
  rfl
theorem ax_ifnonnullN {v : Int} (t : gAt m pc = some (.ifnonnull v, len, r1, r2, r3, ix)) : ax F B m d cut Q (k + 1) c n pc lv (.null :: st) h = (axC F B m d cut Q k c n (pc + 3) (lv) (st) (h)) := by
  rw [ax_at rfl t]
  rfl
theorem ax_getI {v a : Nat} (t : gAt m pc = some (.getfield v, len, r1, r2, 0, ix)) : ax F B m d cut Q (k + 1) c n pc lv (.ref a :: st) h = (hK h a = r1 + 1 ∧ axC F B m d cut Q k c n (pc + 3) (lv) (.int (hI h r1 r2 a) :: st) (h)) := by
  rw [ax_at rfl t]
  rfl
theorem ax_getZ {v a : Nat} (t : gAt m pc = some (.getfield v, len, r1, r2, 1, ix)) : ax F B m d cut Q (k + 1) c n pc lv (.ref a :: st) h = (hK h a = r1 + 1 ∧ axC F B m d cut Q k c n (pc + 3) (lv) (.int (hI h r1 r2 a) :: st) (h)) := by
  rw [ax_at rfl t]
  rfl
theorem ax_getR {v a : Nat} (t : gAt m pc = some (.getfield v, len, r1, r2, 2, ix)) : ax F B m d cut Q (k + 1) c n pc lv (.ref a :: st) h = (hK h a = r1 + 1 ∧ axC F B m d cut Q k c n (pc + 3) (lv) (va_rf (hR h r1 r2 a) :: st) (h)) := by
  rw [ax_at rfl t]
  rfl
theorem ax_putI {v a : Nat} {x : Int32} (t : gAt m pc = some (.putfield v, len, r1, r2, 0, ix)) : ax F B m d cut Q (k + 1) c n pc lv (.int x :: .ref a :: st) h = (hK h a = r1 + 1 ∧ axC F B m d cut Q k c n (pc + 3) (lv) (st) (sI h r1 r2 a x)) := by
  rw [ax_at rfl t]
  simp [awS, kVR, kI, rOk]
theorem ax_putZ {v a : Nat} {x : Int32} (t : gAt m pc = some (.putfield v, len, r1, r2, 1, ix)) : ax F B m d cut Q (k + 1) c n pc lv (.int x :: .ref a :: st) h = (hK h a = r1 + 1 ∧ (x = 0 ∨ x = 1) ∧ axC F B m d cut Q k c n (pc + 3) (lv) (st) (sI h r1 r2 a x)) := by
  rw [ax_at rfl t]
  simp [awS, kVR, kI, rOk]
theorem ax_putR {v a b : Nat} (t : gAt m pc = some (.putfield v, len, r1, r2, 2, ix)) : ax F B m d cut Q (k + 1) c n pc lv (.ref b :: .ref a :: st) h = (hK h a = r1 + 1 ∧ axC F B m d cut Q k c n (pc + 3) (lv) (st) (sR h r1 r2 a (some b))) := by
  rw [ax_at rfl t]
  rfl
theorem ax_putN {v a : Nat} (t : gAt m pc = some (.putfield v, len, r1, r2, 2, ix)) : ax F B m d cut Q (k + 1) c n pc lv (.null :: .ref a :: st) h = (hK h a = r1 + 1 ∧ axC F B m d cut Q k c n (pc + 3) (lv) (st) (sR h r1 r2 a none)) := by
  rw [ax_at rfl t]
  rfl
theorem ax_iaload {i : Int32} {a : Nat} (t : gAt m pc = some (.iaload, len, r1, r2, r3, ix)) : ax F B m d cut Q (k + 1) c n pc lv (.int i :: .ref a :: st) h = (hK h a = r1 ∧ vp_in i (hN h a) ∧ axC F B m d cut Q k c n (pc + 1) (lv) (.int (hA h r1 a i.toNatClampNeg) :: st) (h)) := by
  rw [ax_at rfl t]
  rfl
theorem ax_baload {i : Int32} {a : Nat} (t : gAt m pc = some (.baload, len, r1, r2, r3, ix)) : ax F B m d cut Q (k + 1) c n pc lv (.int i :: .ref a :: st) h = (hK h a = r1 ∧ vp_in i (hN h a) ∧ axC F B m d cut Q k c n (pc + 1) (lv) (.int (hA h r1 a i.toNatClampNeg) :: st) (h)) := by
  rw [ax_at rfl t]
  rfl
theorem ax_caload {i : Int32} {a : Nat} (t : gAt m pc = some (.caload, len, r1, r2, r3, ix)) : ax F B m d cut Q (k + 1) c n pc lv (.int i :: .ref a :: st) h = (hK h a = r1 ∧ vp_in i (hN h a) ∧ axC F B m d cut Q k c n (pc + 1) (lv) (.int (hA h r1 a i.toNatClampNeg) :: st) (h)) := by
  rw [ax_at rfl t]
  rfl
theorem ax_laload {i : Int32} {a : Nat} (t : gAt m pc = some (.laload, len, r1, r2, r3, ix)) : ax F B m d cut Q (k + 1) c n pc lv (.int i :: .ref a :: st) h = (hK h a = r1 ∧ vp_in i (hN h a) ∧ axC F B m d cut Q k c n (pc + 1) (lv) (.long (hJ h r1 a i.toNatClampNeg) :: st) (h)) := by
  rw [ax_at rfl t]
  rfl
theorem ax_aaload {i : Int32} {a : Nat} (t : gAt m pc = some (.aaload, len, r1, r2, r3, ix)) : ax F B m d cut Q (k + 1) c n pc lv (.int i :: .ref a :: st) h = (hK h a = 16 ∧ vp_in i (hN h a) ∧ axC F B m d cut Q k c n (pc + 1) (lv) (va_rf (hO h a i.toNatClampNeg) :: st) (h)) := by
  rw [ax_at rfl t]
  rfl
theorem ax_iastore {x i : Int32} {a : Nat} (t : gAt m pc = some (.iastore, len, r1, r2, r3, ix)) : ax F B m d cut Q (k + 1) c n pc lv (.int x :: .int i :: .ref a :: st) h = (hK h a = r1 ∧ vp_in i (hN h a) ∧ axC F B m d cut Q k c n (pc + 1) (lv) (st) (sA h r1 a (upd (hA h r1 a) i.toNatClampNeg x))) := by
  rw [ax_at rfl t]
  rfl
theorem ax_bastore {x i : Int32} {a : Nat} (t : gAt m pc = some (.bastore, len, r1, r2, r3, ix)) : ax F B m d cut Q (k + 1) c n pc lv (.int x :: .int i :: .ref a :: st) h = (hK h a = r1 ∧ vp_in i (hN h a) ∧ (x = 0 ∨ x = 1) ∧ axC F B m d cut Q k c n (pc + 1) (lv) (st) (sA h r1 a (upd (hA h r1 a) i.toNatClampNeg x))) := by
  rw [ax_at rfl t]
  rfl
theorem ax_castore {x i : Int32} {a : Nat} (t : gAt m pc = some (.castore, len, r1, r2, r3, ix)) : ax F B m d cut Q (k + 1) c n pc lv (.int x :: .int i :: .ref a :: st) h = (hK h a = r1 ∧ vp_in i (hN h a) ∧ axC F B m d cut Q k c n (pc + 1) (lv) (st) (sA h r1 a (upd (hA h r1 a) i.toNatClampNeg (vp_nar .char x)))) := by
  rw [ax_at rfl t]
  rfl
theorem ax_lastore {x : Int64} {i : Int32} {a : Nat} (t : gAt m pc = some (.lastore, len, r1, r2, r3, ix)) : ax F B m d cut Q (k + 1) c n pc lv (.long x :: .int i :: .ref a :: st) h = (hK h a = r1 ∧ vp_in i (hN h a) ∧ axC F B m d cut Q k c n (pc + 1) (lv) (st) (sJ h r1 a (vp_updL (hJ h r1 a) i.toNatClampNeg x))) := by
  rw [ax_at rfl t]
  rfl
theorem ax_arraylength {a : Nat} (t : gAt m pc = some (.arraylength, len, r1, r2, r3, ix)) : ax F B m d cut Q (k + 1) c n pc lv (.ref a :: st) h = (hK h a = r1 ∧ axC F B m d cut Q k c n (pc + 1) (lv) (.int (nI (hN h a)) :: st) (h)) := by
  rw [ax_at rfl t]
  rfl
theorem ax_checkcast {v a : Nat} (t : gAt m pc = some (.checkcast v, len, r1, r2, r3, ix)) : ax F B m d cut Q (k + 1) c n pc lv (.ref a :: st) h = (hK h a = r1 + 1 ∧ axC F B m d cut Q k c n (pc + 3) (lv) (.ref a :: st) (h)) := by
  rw [ax_at rfl t]
  rfl
theorem ax_newarray {ty : ArrayType} {x : Int32} (t : gAt m pc = some (.newarray ty, len, r1, r2, r3, ix)) : ax F B m d cut Q (k + 1) c n pc lv (.int x :: st) h = (¬ x < 0 ∧ x.toNatClampNeg ≤ 1000000 ∧ 1 ≤ c ∧ x.toNatClampNeg ≤ n ∧ ∀ a, hK h a = 0 → axC F B m d cut Q k (c - 1) (n - x.toNatClampNeg) (pc + 2) (lv) (.ref a :: st) (nA h r1 a x.toNatClampNeg)) := by
  rw [ax_at rfl t]
  rfl
theorem ax_new {v : Nat} (t : gAt m pc = some (.new v, len, r1, r2, r3, ix)) : ax F B m d cut Q (k + 1) c n pc lv (st) h = (1 ≤ c ∧ gNf.getD r1 0 ≤ n ∧ ∀ a, hK h a = 0 → axC F B m d cut Q k (c - 1) (n - gNf.getD r1 0) (pc + 3) (lv) (.ref a :: st) (nO h r1 a)) := by
  rw [ax_at rfl t]
  rfl
theorem ax_callV0 {v b : Nat} (t : gAt m pc = some (.invokevirtual v, len, r1, 0, r3, ix)) : ax F B m d cut Q (k + 1) c n pc lv (.ref b :: st) h = (hK h b = r3 + 1 ∧ catS st ≤ 8 ∧ gFn B (F r1) d 0 0 [.ref b] h (fun v h' => gG B m (d + 1) c n (pc + 3) lv (v.toList ++ st) h' Q)) := by
  rw [ax_atC rfl t]; rfl
theorem ax_callI0 {v b : Nat} (h1 : (r1 == 9998) = false) (h2 : (r1 == 9999) = false) (t : gAt m pc = some (.invokespecial v, len, r1, 0, r3, ix)) : ax F B m d cut Q (k + 1) c n pc lv (.ref b :: st) h = (catS st ≤ 8 ∧ gFn B (F r1) d 0 0 [.ref b] h (fun v h' => gG B m (d + 1) c n (pc + 3) lv (v.toList ++ st) h' Q)) := by
  rw [ax_atC rfl t]; simp only [awS]; rw [beq_eq_false_iff_ne] at h1 h2; rw [if_neg h1, if_neg h2]; rfl
theorem ax_callS0 {v : Nat} (t : gAt m pc = some (.invokestatic v, len, r1, 0, r3, ix)) : ax F B m d cut Q (k + 1) c n pc lv (st) h = (catS st ≤ 8 ∧ gFn B (F r1) d 0 0 [] h (fun v h' => gG B m (d + 1) c n (pc + 3) lv (v.toList ++ st) h' Q)) := by
  rw [ax_atC rfl t]; simp [awS, kS, gIsC]; try rfl
theorem ax_callV1 {v b : Nat} {x0 : Value} (t : gAt m pc = some (.invokevirtual v, len, r1, 1, r3, ix)) : ax F B m d cut Q (k + 1) c n pc lv (x0 :: .ref b :: st) h = (hK h b = r3 + 1 ∧ catS st ≤ 8 ∧ gFn B (F r1) d 0 0 [.ref b, x0] h (fun v h' => gG B m (d + 1) c n (pc + 3) lv (v.toList ++ st) h' Q)) := by
  rw [ax_atC rfl t]; rfl
theorem ax_callI1 {v b : Nat} {x0 : Value} (h1 : (r1 == 9998) = false) (h2 : (r1 == 9999) = false) (t : gAt m pc = some (.invokespecial v, len, r1, 1, r3, ix)) : ax F B m d cut Q (k + 1) c n pc lv (x0 :: .ref b :: st) h = (catS st ≤ 8 ∧ gFn B (F r1) d 0 0 [.ref b, x0] h (fun v h' => gG B m (d + 1) c n (pc + 3) lv (v.toList ++ st) h' Q)) := by
  rw [ax_atC rfl t]; simp only [awS]; rw [beq_eq_false_iff_ne] at h1 h2; rw [if_neg h1, if_neg h2]; rfl
theorem ax_callS1 {v : Nat} {x0 : Value} (t : gAt m pc = some (.invokestatic v, len, r1, 1, r3, ix)) : ax F B m d cut Q (k + 1) c n pc lv (x0 :: st) h = (catS st ≤ 8 ∧ gFn B (F r1) d 0 0 [x0] h (fun v h' => gG B m (d + 1) c n (pc + 3) lv (v.toList ++ st) h' Q)) := by
  rw [ax_atC rfl t]; simp [awS, kS, gIsC]; try rfl
theorem ax_callV2 {v b : Nat} {x0 x1 : Value} (t : gAt m pc = some (.invokevirtual v, len, r1, 2, r3, ix)) : ax F B m d cut Q (k + 1) c n pc lv (x1 :: x0 :: .ref b :: st) h = (hK h b = r3 + 1 ∧ catS st ≤ 8 ∧ gFn B (F r1) d 0 0 [.ref b, x0, x1] h (fun v h' => gG B m (d + 1) c n (pc + 3) lv (v.toList ++ st) h' Q)) := by
  rw [ax_atC rfl t]; rfl
theorem ax_callI2 {v b : Nat} {x0 x1 : Value} (h1 : (r1 == 9998) = false) (h2 : (r1 == 9999) = false) (t : gAt m pc = some (.invokespecial v, len, r1, 2, r3, ix)) : ax F B m d cut Q (k + 1) c n pc lv (x1 :: x0 :: .ref b :: st) h = (catS st ≤ 8 ∧ gFn B (F r1) d 0 0 [.ref b, x0, x1] h (fun v h' => gG B m (d + 1) c n (pc + 3) lv (v.toList ++ st) h' Q)) := by
  rw [ax_atC rfl t]; simp only [awS]; rw [beq_eq_false_iff_ne] at h1 h2; rw [if_neg h1, if_neg h2]; rfl
theorem ax_callS2 {v : Nat} {x0 x1 : Value} (t : gAt m pc = some (.invokestatic v, len, r1, 2, r3, ix)) : ax F B m d cut Q (k + 1) c n pc lv (x1 :: x0 :: st) h = (catS st ≤ 8 ∧ gFn B (F r1) d 0 0 [x0, x1] h (fun v h' => gG B m (d + 1) c n (pc + 3) lv (v.toList ++ st) h' Q)) := by
  rw [ax_atC rfl t]; simp [awS, kS, gIsC]; try rfl
theorem ax_callV3 {v b : Nat} {x0 x1 x2 : Value} (t : gAt m pc = some (.invokevirtual v, len, r1, 3, r3, ix)) : ax F B m d cut Q (k + 1) c n pc lv (x2 :: x1 :: x0 :: .ref b :: st) h = (hK h b = r3 + 1 ∧ catS st ≤ 8 ∧ gFn B (F r1) d 0 0 [.ref b, x0, x1, x2] h (fun v h' => gG B m (d + 1) c n (pc + 3) lv (v.toList ++ st) h' Q)) := by
  rw [ax_atC rfl t]; rfl
theorem ax_callI3 {v b : Nat} {x0 x1 x2 : Value} (h1 : (r1 == 9998) = false) (h2 : (r1 == 9999) = false) (t : gAt m pc = some (.invokespecial v, len, r1, 3, r3, ix)) : ax F B m d cut Q (k + 1) c n pc lv (x2 :: x1 :: x0 :: .ref b :: st) h = (catS st ≤ 8 ∧ gFn B (F r1) d 0 0 [.ref b, x0, x1, x2] h (fun v h' => gG B m (d + 1) c n (pc + 3) lv (v.toList ++ st) h' Q)) := by
  rw [ax_atC rfl t]; simp only [awS]; rw [beq_eq_false_iff_ne] at h1 h2; rw [if_neg h1, if_neg h2]; rfl
theorem ax_callS3 {v : Nat} {x0 x1 x2 : Value} (t : gAt m pc = some (.invokestatic v, len, r1, 3, r3, ix)) : ax F B m d cut Q (k + 1) c n pc lv (x2 :: x1 :: x0 :: st) h = (catS st ≤ 8 ∧ gFn B (F r1) d 0 0 [x0, x1, x2] h (fun v h' => gG B m (d + 1) c n (pc + 3) lv (v.toList ++ st) h' Q)) := by
  rw [ax_atC rfl t]; simp [awS, kS, gIsC]; try rfl
theorem ax_callV4 {v b : Nat} {x0 x1 x2 x3 : Value} (t : gAt m pc = some (.invokevirtual v, len, r1, 4, r3, ix)) : ax F B m d cut Q (k + 1) c n pc lv (x3 :: x2 :: x1 :: x0 :: .ref b :: st) h = (hK h b = r3 + 1 ∧ catS st ≤ 8 ∧ gFn B (F r1) d 0 0 [.ref b, x0, x1, x2, x3] h (fun v h' => gG B m (d + 1) c n (pc + 3) lv (v.toList ++ st) h' Q)) := by
  rw [ax_atC rfl t]; rfl
theorem ax_callI4 {v b : Nat} {x0 x1 x2 x3 : Value} (h1 : (r1 == 9998) = false) (h2 : (r1 == 9999) = false) (t : gAt m pc = some (.invokespecial v, len, r1, 4, r3, ix)) : ax F B m d cut Q (k + 1) c n pc lv (x3 :: x2 :: x1 :: x0 :: .ref b :: st) h = (catS st ≤ 8 ∧ gFn B (F r1) d 0 0 [.ref b, x0, x1, x2, x3] h (fun v h' => gG B m (d + 1) c n (pc + 3) lv (v.toList ++ st) h' Q)) := by
  rw [ax_atC rfl t]; simp only [awS]; rw [beq_eq_false_iff_ne] at h1 h2; rw [if_neg h1, if_neg h2]; rfl
theorem ax_callS4 {v : Nat} {x0 x1 x2 x3 : Value} (t : gAt m pc = some (.invokestatic v, len, r1, 4, r3, ix)) : ax F B m d cut Q (k + 1) c n pc lv (x3 :: x2 :: x1 :: x0 :: st) h = (catS st ≤ 8 ∧ gFn B (F r1) d 0 0 [x0, x1, x2, x3] h (fun v h' => gG B m (d + 1) c n (pc + 3) lv (v.toList ++ st) h' Q)) := by
  rw [ax_atC rfl t]; simp [awS, kS, gIsC]; try rfl
theorem ax_obj {v b : Nat} (t : gAt m pc = some (.invokespecial v, len, 9999, r2, r3, ix)) : ax F B m d cut Q (k + 1) c n pc lv (.ref b :: st) h = (catS st ≤ 8 ∧ gG B m (d + 1) c n (pc + 3) lv st h Q) := by
  rw [ax_atC rfl t]; rfl
theorem ax_iretI {x : Int32} (t : gAt m pc = some (.ireturn, len, 0, r2, r3, ix)) : ax F B m d cut Q (k + 1) c n pc lv [.int x] h = Q (some (.int x)) h := by
  rw [ax_at rfl t]; simp [awS, rOk]
theorem ax_iretZ {x : Int32} (t : gAt m pc = some (.ireturn, len, 1, r2, r3, ix)) : ax F B m d cut Q (k + 1) c n pc lv [.int x] h = ((x = 0 ∨ x = 1) ∧ Q (some (.int x)) h) := by
  rw [ax_at rfl t]; simp [awS, rOk]
theorem ax_aretR {a : Nat} (t : gAt m pc = some (.areturn, len, r1, r2, r3, ix)) : ax F B m d cut Q (k + 1) c n pc lv [.ref a] h = Q (some (.ref a)) h := by
  rw [ax_at rfl t]; rfl
theorem ax_aretN (t : gAt m pc = some (.areturn, len, r1, r2, r3, ix)) : ax F B m d cut Q (k + 1) c n pc lv [.null] h = Q (some .null) h := by
  rw [ax_at rfl t]; rfl
theorem ax_vret (t : gAt m pc = some (.return_, len, r1, r2, r3, ix)) : ax F B m d cut Q (k + 1) c n pc lv [] h = Q none h := by
  rw [ax_at rfl t]; simp [awS]
end AX
