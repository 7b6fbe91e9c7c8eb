/-! THE LIGHT JUDGEMENT gG: a frame of a known method over an abstract heap; gFn: a method's contract at given arguments and heap -/
/-- the words that a callee may be given -/
def lw_good : List Cond := lw_tbl.filter goodWord
/-- launch, classes and slots, array classes, the first own address, what is known of the cells below it -/
abbrev gB : Type := Launch × va_G × (Nat → ClassId) × Nat × (State → Heap → Prop)
def gTy (B : gB) : List (ClassId × FieldType) := [(B.2.2.1 0, .int), (B.2.2.1 1, .long), (B.2.2.1 2, .boolean), (B.2.2.1 3, .char), (B.2.2.1 4, .object "java/lang/Object")]
def gA (B : gB) : Nat → Prop := fun q => B.2.2.2.1 ≤ q
def gEx (B : gB) : Prop := ∀ (U U' : State) (H H' : Heap), (U.vm = U'.vm ∨ U.WarmedH U'.vm) → (∀ q, q < B.2.2.2.1 → H'[q]? = H[q]?) → B.2.2.2.2 U H → B.2.2.2.2 U' H'
def gRel (B : gB) (h : gHp) (H : Heap) : Prop := ∃ L : List Nat, (∀ a, a ∈ L ↔ hK h a ≠ 0) ∧ va_P B.2.1 vwCl (va_pl L (gCell B.2.2.1 h)) H ∧ va_D (gA B) (va_pl L (gCell B.2.2.1 h)) ∧ B.2.2.2.1 ≤ H.size
def gU (B : gB) (U : State) (H : Heap) : Prop := va_K B.2.1 vwCl (gTy B) U ∧ B.2.2.2.2 U H
def gQ (B : gB) (Q : Option Value → gHp → Prop) : Array Value → State → Outcome → State → Prop := fun _ st o t => (∃ (v : Option Value) (h : gHp), o = .returned v ∧ Q v h ∧ gRel B h t.heap) ∧ va_F (gA B) st t
def gRm (d c n : Nat) : Room := { frames := d, cells := c, slots := n, locals := 40 * d }
/-- an entry of a method's table: instruction, length, three resolved numbers, a place in lw_good -/
abbrev gE : Type := Instr × Nat × Nat × Nat × Nat × Nat
/-- a method: name, code, locals, return type, (kind: 0 virtual, 1 static, 2 constructor; parameters; places in lw_good of code, initialized, instanceMethod or static, selects; class), table -/
abbrev gM : Type := MethodName × ByteArray × Nat × Option FieldType × (Nat × Nat × Nat × Nat × Nat × Nat × Nat) × List (Nat × gE)
def gY (m : gM) : MethodName := m.1
def gCd (m : gM) : ByteArray := m.2.1
def gL (m : gM) : Nat := m.2.2.1
def gRt (m : gM) : Option FieldType := m.2.2.2.1
def gIx (m : gM) : Nat × Nat × Nat × Nat × Nat × Nat × Nat := m.2.2.2.2.1
def gTb (m : gM) : List (Nat × gE) := m.2.2.2.2.2
def gAt (m : gM) (pc : Nat) : Option gE := (gTb m).lookup pc
def gWs (m : gM) : List Cond := Cond.code (gY m) (gCd m) (gL m) (gRt m) :: lw_good
def gFn (B : gB) (m : gM) (d c n : Nat) (args : List Value) (h : gHp) (Q : Option Value → gHp → Prop) : Prop :=
  gEx B → Met B.1 (gY m) (gWs m) (gRm d c n) (va_Pc args (fun U => gRel B h U.heap ∧ gU B U U.heap)) (gQ B Q) c n (gA B)
def gC (B : gB) (m : gM) (p : Program) (s : State) (mi : MethodId) (args : Array Value) (meth : Method) (cd : Code) : Prop :=
  p.tables.exec = Jvm.exec ∧ cd.code = gCd m ∧ cd.maxLocals = gL m ∧ meth.sig.returnType = gRt m ∧ meth.locks = false ∧ s.vm.findClass (gY m).cls = some mi.cls ∧ ((gY m).name = "law" ∨ meth.name = (gY m).name) ∧ (∀ w ∈ lw_good, w.before args s = true) ∧ gU B s s.heap ∧ B.2.2.2.1 ≤ s.heap.size ∧ gEx B
def gG (B : gB) (m : gM) (d c n pc : Nat) (lv : List (Nat × Value)) (st : List Value) (h : gHp) (Q : Option Value → gHp → Prop) : Prop :=
  ∀ (p : Program) (e : Env) (s : State) (mi : MethodId) (args : Array Value) (below : List Frame) (meth : Method) (cd : Code) (H : Heap) (locs : List Loc) (cells slots : Nat) (ls : Array Slot),
    gC B m p s mi args meth cd → gRel B h H → va_S (gA B) s.heap H locs → lv_has ls (gL m) lv →
    W p B.1 e (gRm d (cells + c) (slots + n)) s mi args below meth cd H locs cells slots (MQ below (gQ B Q) args s (cells + c) (slots + n) (gA B)) (F0 mi pc ls st)
theorem gFn_of {B : gB} {m : gM} {d c n : Nat} {args : List Value} {h : gHp} {Q : Option Value → gHp → Prop} (hy : plainName (gY m).cls = true) (hl : (lg_sl args).length ≤ gL m) (hG : gG B m d c n 0 (lv_args 0 args) [] h Q) : gFn B m d c n args h Q := by
  intro hEx
  refine Met.ofW (cc := gCd m) (maxL := gL m) (ret := gRt m) hy rfl ?_
  intro p e s mi as below meth cd s₁ Bd hml hv
  obtain ⟨rfl, hR, hU⟩ := hv
  have hts := atoms_spec (ws := gWs m) Bd.pre
  rw [lg_entry_eq]
  obtain ⟨L, h1, h2, h3, h4⟩ := id hR
  have hb : B.2.2.2.1 ≤ s.heap.size := h4
  have K := hG p e s mi args.toArray below meth cd s.heap [] 0 0 _ ⟨Bd.exec, Bd.bytes, hml, Bd.returns, Bd.notSynchronized, findClass_of_methodNamed Bd.named, Or.inr (name_of_methodNamed Bd.named Bd.method).1, fun w hw => hts w (List.mem_cons_of_mem _ hw), hU, hb, hEx⟩ hR va_S.rf (lv_entry args hl)
  simp only [Nat.zero_add] at K
  exact K
/-- any pure step of the machine is a step of gG -/
theorem gG_sub {B : gB} {m : gM} {d c n pc : Nat} {lv lv' : List (Nat × Value)} {st : List Value} {h : gHp} {Q : Option Value → gHp → Prop} (hs : ∀ q ∈ lv', q ∈ lv) (k : gG B m d c n pc lv' st h Q) : gG B m d c n pc lv st h Q := by
  intro p e s mi args below meth cd H locs cells slots ls C R S hl
  exact k p e s mi args below meth cd H locs cells slots ls C R S ⟨hl.1, hl.2.1, fun q hq => hl.2.2 q (hs q hq)⟩
/-- the externals at the heap as it stands -/
theorem gC_ex {B : gB} {m : gM} {p : Program} {s : State} {mi : MethodId} {args : Array Value} {meth : Method} {cd : Code} {H : Heap} {locs : List Loc} (C : gC B m p s mi args meth cd) (S : va_S (gA B) s.heap H locs) {U : State} (hU : s.WarmedH U.vm) : gU B U H := by
  obtain ⟨-, -, -, -, -, -, -, -, ⟨hK, hE⟩, hb, hEx⟩ := C
  refine ⟨va_K.moved hU.alike hK, hEx s U s.heap H (Or.inr hU) (fun q hq => ?_) hE⟩
  exact S.2.1 q (Nat.lt_of_lt_of_le hq hb) (Nat.not_le.mpr hq)
/-- a cell of the heap, by its place in the list -/
theorem gRel_at {L : List Nat} {f : Nat → va_E} {a : Nat} (h : a ∈ L) : ∃ k : Nat, (va_pl L f)[k]? = some (a, f a) := va_pl_get (X := []) h
theorem gRel_set {A : Nat → Prop} {L : List Nat} {f : Nat → va_E} {a k : Nat} {e : va_E} (hD : va_D A (va_pl L f)) (h : a ∈ L) (hk : (va_pl L f)[k]? = some (a, f a)) : (va_pl L f).set k (a, e) = va_pl L (va_up f a e) := va_pl_set (X := []) hD h hk
/-- the heap behind a write -/
theorem gRel_put {B : gB} {h h' : gHp} {H1 : Heap} {L : List Nat} {a k : Nat} {e : va_E} (hL : ∀ a, a ∈ L ↔ hK h a ≠ 0) (hD : va_D (gA B) (va_pl L (gCell B.2.2.1 h))) (ha : a ∈ L) (hk : (va_pl L (gCell B.2.2.1 h))[k]? = some (a, gCell B.2.2.1 h a)) (hK' : hK h' = hK h) (he : va_up (gCell B.2.2.1 h) a e = gCell B.2.2.1 h')
    (hP1 : va_P B.2.1 vwCl ((va_pl L (gCell B.2.2.1 h)).set k (a, e)) H1) (hD1 : va_D (gA B) ((va_pl L (gCell B.2.2.1 h)).set k (a, e))) (hz : B.2.2.2.1 ≤ H1.size) : gRel B h' H1 := by
  rw [gRel_set hD ha hk, he] at hP1 hD1
  exact ⟨L, by rw [hK']; exact hL, hP1, hD1, hz⟩
theorem va_S.base {A : Nat → Prop} {H0 H : Heap} {locs : List Loc} {b : Nat} (S : va_S A H0 H locs) (hb : b ≤ H0.size) : b ≤ H.size := Nat.le_trans hb S.1
