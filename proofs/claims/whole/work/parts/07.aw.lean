/-! THE CONDITION OF A STRETCH OF CODE, computed out of a method's table: aw; and that it suffices: aw_sound -/
theorem gFn_mono {B : gB} {m : gM} {d c n : Nat} {args : List Value} {h : gHp} {Q Q' : Option Value → gHp → Prop} (hq : ∀ v h', Q v h' → Q' v h') (hf : gFn B m d c n args h Q) : gFn B m d c n args h Q' := by
  intro hEx p e a1 a2 a3 s mi as below a4 a5 a6 a7
  obtain ⟨k, o, b1, b2, b3, ⟨⟨v, h', e1, e2, e3⟩, b5⟩, b6⟩ := hf hEx p e a1 a2 a3 s mi as below a4 a5 a6 a7
  exact ⟨k, o, b1, b2, b3, ⟨⟨v, h', e1, hq v h' e2, e3⟩, b5⟩, b6⟩
theorem gG_mono {B : gB} {m : gM} {d c n pc : Nat} {lv : List (Nat × Value)} {st : List Value} {h : gHp} {Q Q' : Option Value → gHp → Prop} (hq : ∀ v h', Q v h' → Q' v h') (hf : gG B m d c n pc lv st h Q) : gG B m d c n pc lv st h Q' := by
  intro p e s mi args below meth cd H locs cells slots ls C R S hl T hT X
  obtain ⟨t, a1, o, b1, b2, ⟨⟨v, h', e1, e2, e3⟩, b5⟩, b6⟩ := hf p e s mi args below meth cd H locs cells slots ls C R S hl T hT X
  exact ⟨t, a1, o, b1, b2, ⟨⟨v, h', e1, hq v h' e2, e3⟩, b5⟩, b6⟩
theorem gG_objInit {B : gB} {m : gM} {d c n pc idx a : Nat} {lv : List (Nat × Value)} {rest : List Value} {h : gHp} {Q : Option Value → gHp → Prop} (hdg : decode (gCd m) pc = .ok (.invokespecial idx, 3)) (hlk : Cond.methodLink (gY m).cls idx Lib.objectInit ∈ lw_good) (hin : Cond.instanceMethod Lib.objectInit ∈ lw_good) (hco : Cond.code Lib.objectInit ⟨#[0xb1]⟩ 1 none ∈ lw_good) (hr : (rest.map fun v => v.category).sum ≤ 8)
    (kk : gG B m (d + 1) c n (pc + 3) lv rest h Q) : gG B m (d + 1) c n pc lv (.ref a :: rest) h Q := by
  intro p e s mi args below meth cd H locs cells slots ls C R S hl
  obtain ⟨hx, hcode, hml, hrr, hlo, hown, hnm, hts, ⟨hKK, hEE⟩, hbs, hEx⟩ := id C
  have hr8 := lv_room (m := mi) (pc := pc) (ls := ls) (rest := .ref a :: rest) hr
  exact W.objInit hx hcode hown (hts _ hlk) (hts _ hin) (hts _ hco) rfl (hl.1.trans hml.symm) rfl hdg (by simp only [gRm]; omega) (by simp only [gRm]; omega) (kk p e s mi args below meth cd H locs cells slots ls C R S hl)
/-- a constant: its size, its sign -/
def gLit (a b : Nat) : Int32 := if b = 0 then nI a else -nI a
theorem gLit_0 (a : Nat) : gLit a 0 = nI a := rfl
theorem gLit_1 (a : Nat) : gLit a 1 = -nI a := rfl
def kI (st : List Value) (f : Int32 → List Value → Prop) : Prop := match st with | .int x :: r => f x r | _ => False
def kII (st : List Value) (f : Int32 → Int32 → List Value → Prop) : Prop := match st with | .int y :: .int x :: r => f x y r | _ => False
def kL (st : List Value) (f : Int64 → List Value → Prop) : Prop := match st with | .long x :: r => f x r | _ => False
def kLL (st : List Value) (f : Int64 → Int64 → List Value → Prop) : Prop := match st with | .long y :: .long x :: r => f x y r | _ => False
def kIL (st : List Value) (f : Int64 → Int32 → List Value → Prop) : Prop := match st with | .int y :: .long x :: r => f x y r | _ => False
def kR (st : List Value) (f : Nat → List Value → Prop) : Prop := match st with | .ref a :: r => f a r | _ => False
def kIR (st : List Value) (f : Int32 → Nat → List Value → Prop) : Prop := match st with | .int i :: .ref a :: r => f i a r | _ => False
def kIIR (st : List Value) (f : Int32 → Int32 → Nat → List Value → Prop) : Prop := match st with | .int x :: .int i :: .ref a :: r => f x i a r | _ => False
def kLIR (st : List Value) (f : Int64 → Int32 → Nat → List Value → Prop) : Prop := match st with | .long x :: .int i :: .ref a :: r => f x i a r | _ => False
def kV (st : List Value) (f : Value → List Value → Prop) : Prop := match st with | v :: r => f v r | _ => False
def kVV (st : List Value) (f : Value → Value → List Value → Prop) : Prop := match st with | v :: w :: r => f v w r | _ => False
def kO (v : Value) (f : Option Nat → Prop) : Prop := match v with | .null => f none | .ref a => f (some a) | _ => False
def kVR (st : List Value) (f : Value → Nat → List Value → Prop) : Prop := match st with | v :: .ref a :: r => f v a r | _ => False
def kN (st : List Value) (f : Bool → List Value → Prop) : Prop := match st with | .null :: r => f true r | .ref _ :: r => f false r | _ => False
def kLdI (lv : List (Nat × Value)) (i : Nat) (f : Int32 → Prop) : Prop := match lvGet lv i with | some (.int x) => f x | _ => False
def kLdL (lv : List (Nat × Value)) (i : Nat) (f : Int64 → Prop) : Prop := match lvGet lv i with | some (.long x) => f x | _ => False
def kLdR (lv : List (Nat × Value)) (i : Nat) (f : Value → Prop) : Prop := match lvGet lv i with | some (.ref a) => f (.ref a) | some .null => f .null | _ => False
def kCall (np : Nat) (st : List Value) (f : Nat → List Value → List Value → Prop) : Prop := match st.drop np with | .ref b :: r => f b (st.take np).reverse r | _ => False
def kS (np : Nat) (st : List Value) (f : List Value → List Value → Prop) : Prop := f (st.take np).reverse (st.drop np) ∧ np ≤ st.length
def rOk (r : Nat) (v : Int32) : Prop := r = 0 ∨ (r = 1 ∧ (v = 0 ∨ v = 1))
def catS (st : List Value) : Nat := (st.map fun v => v.category).sum
def cmpZ (k : Jvm.ClassFile.Cond) (x : Int32) (A E : Prop) : Prop := match k with
  | .eq => (x = 0 → A) ∧ (¬ x = 0 → E) | .ne => (¬ x = 0 → A) ∧ (x = 0 → E) | .lt => (x < 0 → A) ∧ (¬ x < 0 → E)
  | .ge => (0 ≤ x → A) ∧ (¬ 0 ≤ x → E) | .gt => (0 < x → A) ∧ (¬ 0 < x → E) | .le => (x ≤ 0 → A) ∧ (¬ x ≤ 0 → E)
def cmpI (k : Jvm.ClassFile.Cond) (x y : Int32) (A E : Prop) : Prop := match k with
  | .eq => (x = y → A) ∧ (¬ x = y → E) | .ne => (¬ x = y → A) ∧ (x = y → E) | .lt => (x < y → A) ∧ (¬ x < y → E)
  | .ge => (y ≤ x → A) ∧ (¬ y ≤ x → E) | .gt => (y < x → A) ∧ (¬ y < x → E) | .le => (x ≤ y → A) ∧ (¬ x ≤ y → E)
abbrev gKo : Type := Nat → Nat → Nat → List (Nat × Value) → List Value → gHp → Prop
/-- one instruction: what must hold that the machine goes on to K, or returns with Q -/
def awS (F : Nat → gM) (B : gB) (m : gM) (d : Nat) (K : gKo) (Q : Option Value → gHp → Prop) (e : gE) (c n pc : Nat) (lv : List (Nat × Value)) (st : List Value) (h : gHp) : Prop :=
  match e.1 with
  | .iconst _ => K c n (pc + 1) lv (.int (gLit e.2.2.1 e.2.2.2.1) :: st) h
  | .bipush _ => K c n (pc + 2) lv (.int (gLit e.2.2.1 e.2.2.2.1) :: st) h
  | .sipush _ => K c n (pc + 3) lv (.int (gLit e.2.2.1 e.2.2.2.1) :: st) h
  | .ldc _ => if e.2.2.2.2.1 = 7 then False else K c n (pc + 2) lv (.int (gLit e.2.2.1 e.2.2.2.1) :: st) h
  | .ldc2_w _ => K c n (pc + 3) lv (.long (lN e.2.2.1) :: st) h
  | .lconst v => K c n (pc + 1) lv (.long (lN v.val) :: st) h
  | .aconst_null => K c n (pc + 1) lv (.null :: st) h
  | .iload_n i => kLdI lv i.val (fun x => K c n (pc + 1) lv (.int x :: st) h)
  | .iload i => kLdI lv i (fun x => K c n (pc + 2) lv (.int x :: st) h)
  | .lload_n i => kLdL lv i.val (fun x => K c n (pc + 1) lv (.long x :: st) h)
  | .lload i => kLdL lv i (fun x => K c n (pc + 2) lv (.long x :: st) h)
  | .aload_n i => kLdR lv i.val (fun v => K c n (pc + 1) lv (v :: st) h)
  | .aload i => kLdR lv i (fun v => K c n (pc + 2) lv (v :: st) h)
  | .istore_n i => kI st (fun x r => K c n (pc + 1) (lvSet1 lv i.val (.int x)) r h)
  | .istore i => kI st (fun x r => K c n (pc + 2) (lvSet1 lv i (.int x)) r h)
  | .lstore i => kL st (fun x r => K c n (pc + 2) (lvSet2 lv i (.long x)) r h)
  | .astore_n i => kV st (fun v r => kO v (fun o => K c n (pc + 1) (lvSet1 lv i.val (va_rf o)) r h))
  | .astore i => kV st (fun v r => kO v (fun o => K c n (pc + 2) (lvSet1 lv i (va_rf o)) r h))
  | .iinc i _ => kLdI lv i (fun x => K c n (pc + 3) (lvSet1 lv i (.int (x + gLit e.2.2.1 e.2.2.2.1))) st h)
  | .iadd => kII st (fun x y r => K c n (pc + 1) lv (.int (x + y) :: r) h)
  | .isub => kII st (fun x y r => K c n (pc + 1) lv (.int (x - y) :: r) h)
  | .imul => kII st (fun x y r => K c n (pc + 1) lv (.int (x * y) :: r) h)
  | .iand => kII st (fun x y r => K c n (pc + 1) lv (.int (x &&& y) :: r) h)
  | .ior => kII st (fun x y r => K c n (pc + 1) lv (.int (x ||| y) :: r) h)
  | .ixor => kII st (fun x y r => K c n (pc + 1) lv (.int (x ^^^ y) :: r) h)
  | .irem => kII st (fun x y r => ¬ y = 0 ∧ K c n (pc + 1) lv (.int (x - x / y * y) :: r) h)
  | .ishl => kII st (fun x y r => K c n (pc + 1) lv (.int (x <<< (y &&& 31)) :: r) h)
  | .ishr => kII st (fun x y r => K c n (pc + 1) lv (.int (x >>> (y &&& 31)) :: r) h)
  | .iushr => kII st (fun x y r => K c n (pc + 1) lv (.int ((x.toUInt32 >>> (y.toUInt32 &&& Int32.toUInt32 31)).toInt32) :: r) h)
  | .ladd => kLL st (fun x y r => K c n (pc + 1) lv (.long (x + y) :: r) h)
  | .lsub => kLL st (fun x y r => K c n (pc + 1) lv (.long (x - y) :: r) h)
  | .lmul => kLL st (fun x y r => K c n (pc + 1) lv (.long (x * y) :: r) h)
  | .land => kLL st (fun x y r => K c n (pc + 1) lv (.long (x &&& y) :: r) h)
  | .lor => kLL st (fun x y r => K c n (pc + 1) lv (.long (x ||| y) :: r) h)
  | .lshl => kIL st (fun x y r => K c n (pc + 1) lv (.long (x <<< (y.toInt64 &&& 63)) :: r) h)
  | .lshr => kIL st (fun x y r => K c n (pc + 1) lv (.long (x >>> (y.toInt64 &&& 63)) :: r) h)
  | .lushr => kIL st (fun x y r => K c n (pc + 1) lv (.long ((x.toUInt64 >>> (y.toInt64.toUInt64 &&& Int64.toUInt64 63)).toInt64) :: r) h)
  | .lcmp => kLL st (fun x y r => K c n (pc + 1) lv (.int (lg_cmp x y) :: r) h)
  | .i2l => kI st (fun x r => K c n (pc + 1) lv (.long x.toInt64 :: r) h)
  | .l2i => kL st (fun x r => K c n (pc + 1) lv (.int x.toInt32 :: r) h)
  | .i2c => kI st (fun x r => K c n (pc + 1) lv (.int (x.toUInt32 % 65536).toInt32 :: r) h)
  | .dup => kV st (fun v r => v.category = 1 ∧ K c n (pc + 1) lv (v :: v :: r) h)
  | .pop => kV st (fun v r => v.category = 1 ∧ K c n (pc + 1) lv r h)
  | .dup_x1 => kVV st (fun v w r => v.category = 1 ∧ w.category = 1 ∧ K c n (pc + 1) lv (v :: w :: v :: r) h)
  | .dup2 => kVV st (fun v w r => v.category = 1 ∧ w.category = 1 ∧ K c n (pc + 1) lv (v :: w :: v :: w :: r) h)
  | .goto _ => K c n e.2.2.1 lv st h
  | .ifCond k _ => kI st (fun x r => cmpZ k x (K c n e.2.2.1 lv r h) (K c n (pc + 3) lv r h))
  | .if_icmp k _ => kII st (fun x y r => cmpI k x y (K c n e.2.2.1 lv r h) (K c n (pc + 3) lv r h))
  | .ifnull _ => kN st (fun b r => if b then K c n e.2.2.1 lv r h else K c n (pc + 3) lv r h)
  | .ifnonnull _ => kN st (fun b r => if b then K c n (pc + 3) lv r h else K c n e.2.2.1 lv r h)
  | .getfield _ => kR st (fun a r => hK h a = e.2.2.1 + 1 ∧ K c n (pc + 3) lv ((if e.2.2.2.2.1 = 2 then va_rf (hR h e.2.2.1 e.2.2.2.1 a) else .int (hI h e.2.2.1 e.2.2.2.1 a)) :: r) h)
  | .putfield _ => kVR st (fun v a r => hK h a = e.2.2.1 + 1 ∧ (if e.2.2.2.2.1 = 2 then kO v (fun o => K c n (pc + 3) lv r (sR h e.2.2.1 e.2.2.2.1 a o)) else kI [v] (fun x _ => rOk e.2.2.2.2.1 x ∧ K c n (pc + 3) lv r (sI h e.2.2.1 e.2.2.2.1 a x))))
  | .iaload => kIR st (fun i a r => hK h a = e.2.2.1 ∧ vp_in i (hN h a) ∧ K c n (pc + 1) lv (.int (hA h e.2.2.1 a i.toNatClampNeg) :: r) h)
  | .baload => kIR st (fun i a r => hK h a = e.2.2.1 ∧ vp_in i (hN h a) ∧ K c n (pc + 1) lv (.int (hA h e.2.2.1 a i.toNatClampNeg) :: r) h)
  | .caload => kIR st (fun i a r => hK h a = e.2.2.1 ∧ vp_in i (hN h a) ∧ K c n (pc + 1) lv (.int (hA h e.2.2.1 a i.toNatClampNeg) :: r) h)
  | .laload => kIR st (fun i a r => hK h a = e.2.2.1 ∧ vp_in i (hN h a) ∧ K c n (pc + 1) lv (.long (hJ h e.2.2.1 a i.toNatClampNeg) :: r) h)
  | .aaload => kIR st (fun i a r => hK h a = 16 ∧ vp_in i (hN h a) ∧ K c n (pc + 1) lv (va_rf (hO h a i.toNatClampNeg) :: r) h)
  | .iastore => kIIR st (fun x i a r => hK h a = e.2.2.1 ∧ vp_in i (hN h a) ∧ K c n (pc + 1) lv r (sA h e.2.2.1 a (upd (hA h e.2.2.1 a) i.toNatClampNeg x)))
  | .bastore => kIIR st (fun x i a r => hK h a = e.2.2.1 ∧ vp_in i (hN h a) ∧ (x = 0 ∨ x = 1) ∧ K c n (pc + 1) lv r (sA h e.2.2.1 a (upd (hA h e.2.2.1 a) i.toNatClampNeg x)))
  | .castore => kIIR st (fun x i a r => hK h a = e.2.2.1 ∧ vp_in i (hN h a) ∧ K c n (pc + 1) lv r (sA h e.2.2.1 a (upd (hA h e.2.2.1 a) i.toNatClampNeg (vp_nar .char x))))
  | .lastore => kLIR st (fun x i a r => hK h a = e.2.2.1 ∧ vp_in i (hN h a) ∧ K c n (pc + 1) lv r (sJ h e.2.2.1 a (vp_updL (hJ h e.2.2.1 a) i.toNatClampNeg x)))
  | .checkcast _ => kR st (fun a r => hK h a = e.2.2.1 + 1 ∧ K c n (pc + 3) lv (.ref a :: r) h)
  | .arraylength => kR st (fun a r => hK h a = e.2.2.1 ∧ K c n (pc + 1) lv (.int (nI (hN h a)) :: r) h)
  | .newarray _ => kI st (fun x r => ¬ x < 0 ∧ x.toNatClampNeg ≤ 1000000 ∧ 1 ≤ c ∧ x.toNatClampNeg ≤ n ∧ ∀ a, hK h a = 0 → K (c - 1) (n - x.toNatClampNeg) (pc + 2) lv (.ref a :: r) (nA h e.2.2.1 a x.toNatClampNeg))
  | .new _ => 1 ≤ c ∧ gNf.getD e.2.2.1 0 ≤ n ∧ ∀ a, hK h a = 0 → K (c - 1) (n - gNf.getD e.2.2.1 0) (pc + 3) lv (.ref a :: st) (nO h e.2.2.1 a)
  | .invokevirtual _ => kCall e.2.2.2.1 st (fun b As r => hK h b = e.2.2.2.2.1 + 1 ∧ catS r ≤ 8 ∧ gFn B (F e.2.2.1) d 0 0 (.ref b :: As) h (fun v h' => K c n (pc + 3) lv (v.toList ++ r) h'))
  | .invokespecial _ => if e.2.2.1 = 9998 then False else if e.2.2.1 = 9999 then kR st (fun _ r => catS r ≤ 8 ∧ K c n (pc + 3) lv r h) else kCall e.2.2.2.1 st (fun b As r => catS r ≤ 8 ∧ gFn B (F e.2.2.1) d 0 0 (.ref b :: As) h (fun v h' => K c n (pc + 3) lv (v.toList ++ r) h'))
  | .invokestatic _ => kS e.2.2.2.1 st (fun As r => catS r ≤ 8 ∧ gFn B (F e.2.2.1) d 0 0 As h (fun v h' => K c n (pc + 3) lv (v.toList ++ r) h'))
  | .ireturn => match st with | [.int v] => rOk e.2.2.1 v ∧ Q (some (.int v)) h | _ => False
  | .areturn => match st with | [v] => kO v (fun o => Q (some (va_rf o)) h) | _ => False
  | .return_ => st = [] ∧ Q none h
  | _ => False
def cutAt : List (Nat × List Nat) → Nat → Option (List Nat)
  | [], _ => none
  | q :: l, i => if q.1 = i then some q.2 else cutAt l i
/-- k instructions from pc on; it stops at the places of 'cut' (with the locals that are named there), and behind the k-th, with gG -/
def aw (F : Nat → gM) (B : gB) (m : gM) (d : Nat) (cut : List (Nat × List Nat)) (Q : Option Value → gHp → Prop) : Nat → gKo
  | 0 => fun c n pc lv st h => gG B m (d + 1) c n pc lv st h Q
  | k + 1 => fun c n pc lv st h => match gAt m pc with
    | none => False
    | some e => awS F B m d (fun c n pc lv st h => match cutAt cut pc with
      | some live => gG B m (d + 1) c n pc (lv.filter (fun q => live.contains q.1)) st h Q
      | none => aw F B m d cut Q k c n pc lv st h) Q e c n pc lv st h
/-- what is checked of a table, by the kernel -/
def okF (own : String) (idx c k ix : Nat) : Bool := match vwCl[c]? with
  | some q => decide (k < q.2.2) && decide (gNf.getD c 0 = q.2.2) && decide (c < 11) && decide (lw_tbl[ix]? = some (Cond.fieldLink own idx (q.2.1 k).1 (q.2.1 k).2.1 (q.2.1 k).2.2.1)) && goodWord (Cond.fieldLink own idx (q.2.1 k).1 (q.2.1 k).2.1 (q.2.1 k).2.2.1)
  | none => false
def okT (c k t : Nat) : Bool := match vwCl[c]? with
  | some q => match parseFieldDescriptor (q.2.1 k).2.2.1 with
    | some .int => t == 0 && !(gIsR c k)
    | some .boolean => t == 1 && !(gIsR c k)
    | some (.object _) => t == 2 && gIsR c k
    | some (.array _) => t == 2 && gIsR c k
    | _ => false
  | none => false
def okP (m : gM) (c k : Nat) : Bool := match vwCl[c]? with
  | some q => !((q.2.1 k).2.2.2) || (decide ((gY m).name = "<init>") && decide ((q.2.1 k).1 = (gY m).cls))
  | none => false
def okW (ix : Nat) (w : Cond) : Bool := decide (lw_tbl[ix]? = some w) && goodWord w
def okB (c : Nat) : Bool := match vwCl[c]? with
  | some q => (List.range q.2.2).all (fun j => match parseFieldDescriptor (q.2.1 j).2.2.1 with | some ty => decide (defaultValue ty = vp_V (gBl c) j) | none => false)
  | none => false
def okI (F : Nat → gM) (N : Nat) (m : gM) (pc : Nat) (e : gE) : Bool :=
  match e.1 with
  | .iconst v => e.2.1 == 1 && decide (Int32.ofInt v = gLit e.2.2.1 e.2.2.2.1)
  | .bipush v => e.2.1 == 2 && decide ((Int8.ofInt v).toInt32 = gLit e.2.2.1 e.2.2.2.1)
  | .sipush v => e.2.1 == 3 && decide ((Int16.ofInt v).toInt32 = gLit e.2.2.1 e.2.2.2.1)
  | .tableswitch _ _ _ _ | .lookupswitch _ _ | .getstatic _ | .anewarray _ | .if_acmp _ _ | .ldc_w _ => true
  | .ldc i => e.2.1 == 2 && (e.2.2.2.2.1 == 7 || okW e.2.2.2.2.2 (Cond.constant (gY m).cls i (gLit e.2.2.1 e.2.2.2.1)))
  | .ldc2_w i => e.2.1 == 3 && okW e.2.2.2.2.2 (Cond.constantLong (gY m).cls i (lN e.2.2.1))
  | .lconst v => e.2.1 == 1
  | .istore_n i => e.2.1 == 1 && decide (i.val < gL m)
  | .astore_n i => e.2.1 == 1 && decide (i.val < gL m)
  | .istore i => e.2.1 == 2 && decide (i < gL m)
  | .astore i => e.2.1 == 2 && decide (i < gL m)
  | .lstore i => e.2.1 == 2 && decide (i + 1 < gL m)
  | .iinc i v => e.2.1 == 3 && decide (i < gL m) && decide (Int32.ofInt v = gLit e.2.2.1 e.2.2.2.1)
  | .iload _ | .lload _ | .aload _ => e.2.1 == 2
  | .goto off => e.2.1 == 3 && decide ((pc : Int) + off = (e.2.2.1 : Int))
  | .ifCond _ off => e.2.1 == 3 && decide ((pc : Int) + off = (e.2.2.1 : Int))
  | .if_icmp _ off => e.2.1 == 3 && decide ((pc : Int) + off = (e.2.2.1 : Int))
  | .ifnull off => e.2.1 == 3 && decide ((pc : Int) + off = (e.2.2.1 : Int))
  | .ifnonnull off => e.2.1 == 3 && decide ((pc : Int) + off = (e.2.2.1 : Int))
  | .getfield i => e.2.1 == 3 && okF (gY m).cls i e.2.2.1 e.2.2.2.1 e.2.2.2.2.2 && okT e.2.2.1 e.2.2.2.1 e.2.2.2.2.1
  | .putfield i => e.2.1 == 3 && okF (gY m).cls i e.2.2.1 e.2.2.2.1 e.2.2.2.2.2 && okT e.2.2.1 e.2.2.2.1 e.2.2.2.2.1 && okP m e.2.2.1 e.2.2.2.1
  | .iaload | .iastore => e.2.1 == 1 && (e.2.2.1 == 12 || e.2.2.1 == 112)
  | .baload | .bastore => e.2.1 == 1 && (e.2.2.1 == 14 || e.2.2.1 == 114)
  | .caload | .castore => e.2.1 == 1 && e.2.2.1 == 15
  | .laload | .lastore => e.2.1 == 1 && (e.2.2.1 == 13 || e.2.2.1 == 113)
  | .arraylength => e.2.1 == 1 && (e.2.2.1 == 12 || e.2.2.1 == 112)
  | .newarray ty => e.2.1 == 2 && okW e.2.2.2.2.2 (Cond.arrayClass (newarray.typeOf ty)) && (match ty with | .int => e.2.2.1 == 12 || e.2.2.1 == 112 | .boolean => e.2.2.1 == 14 || e.2.2.1 == 114 | .char => e.2.2.1 == 15 | .long => e.2.2.1 == 13 || e.2.2.1 == 113 | _ => false)
  | .checkcast i => e.2.1 == 3 && decide (e.2.2.1 < 11) && (match vwCl[e.2.2.1]? with | some q => okW e.2.2.2.2.2 (Cond.classLink (gY m).cls i q.1) | none => false)
  | .new i => e.2.1 == 3 && decide (e.2.2.1 < 11) && okB e.2.2.1 && (match vwCl[e.2.2.1]? with | some q => okW e.2.2.2.2.2 (Cond.classLink (gY m).cls i q.1) && decide (Cond.instantiable q.1 q.2.2 ∈ lw_tbl) && goodWord (Cond.instantiable q.1 q.2.2) && decide (Cond.initialized q.1 ∈ lw_tbl) && goodWord (Cond.initialized q.1) && decide (gNf.getD e.2.2.1 0 = q.2.2) | none => false)
  | .invokevirtual i => e.2.1 == 3 && decide (e.2.2.1 < N) && decide ((gIx (F e.2.2.1)).1 = 0) && decide ((gIx (F e.2.2.1)).2.1 = e.2.2.2.1) && decide (e.2.2.2.2.1 < 11) && okW e.2.2.2.2.2 (Cond.methodLink (gY m).cls i (gY (F e.2.2.1))) && (match vwCl[e.2.2.2.2.1]? with | some q => decide (q.1 = (gY (F e.2.2.1)).cls) | none => false)
  | .invokespecial i => e.2.1 == 3 && (if e.2.2.1 = 9998 then true else if e.2.2.1 = 9999 then okW e.2.2.2.2.2 (Cond.methodLink (gY m).cls i Lib.objectInit) else decide (e.2.2.1 < N) && decide ((gIx (F e.2.2.1)).1 = 2) && decide ((gIx (F e.2.2.1)).2.1 = e.2.2.2.1) && okW e.2.2.2.2.2 (Cond.methodLink (gY m).cls i (gY (F e.2.2.1))))
  | .invokestatic i => e.2.1 == 3 && decide (e.2.2.1 < N) && decide ((gIx (F e.2.2.1)).1 = 1) && decide ((gIx (F e.2.2.1)).2.1 = e.2.2.2.1) && okW e.2.2.2.2.2 (Cond.methodLink (gY m).cls i (gY (F e.2.2.1)))
  | .ireturn => e.2.1 == 1 && ((e.2.2.1 == 0 && decide (gRt m = some .int)) || (e.2.2.1 == 1 && decide (gRt m = some .boolean)))
  | .areturn => e.2.1 == 1 && (match gRt m with | some (.object _) => true | some (.array _) => true | _ => false)
  | .return_ => e.2.1 == 1 && decide (gRt m = none)
  | _ => e.2.1 == 1
def okE (F : Nat → gM) (N : Nat) (m : gM) (q : Nat × gE) : Bool := decide (decode (gCd m) q.1 = .ok (q.2.1, q.2.2.1)) && okI F N m q.1 q.2
