/-! THE START: the tables' numbers, the empty heap, the whole walk -/
set_option maxRecDepth 100000 in
theorem stI : vwCl.all (fun q => decide (Cond.instantiable q.1 q.2.2 ∈ lw_tbl)) = true := by decide +kernel
set_option maxRecDepth 100000 in
theorem stA : ([Cond.arrayClass .int, Cond.arrayClass .long, Cond.arrayClass .boolean, Cond.arrayClass .char, Cond.arrayOver (.object "java/lang/Object")] : List Cond).all (fun w => decide (w ∈ lw_tbl)) = true := by decide +kernel
theorem st_arr {args : Array Value} {s : State} {ty : FieldType} (h : (Cond.arrayClass ty).before args s = true) : ∃ cA : ClassId, ArrOfT s cA ty ∧ s.vm.findClass ("[" ++ ty.toString) = some cA := by
  obtain ⟨cA, kA, comp, h1, h2, h3⟩ := Cond.arrayClass_spec h
  exact ⟨cA, fun n z => ⟨fun k h => (by cases h), kA, h2, comp, h3⟩, h1⟩
theorem st_K {s : State} {b : Nat} (hts : ∀ w ∈ lw_tbl, w.before #[Value.ref b] s = true) : ∃ (D : va_G) (ty : Nat → ClassId), va_K D vwCl [(ty 0, .int), (ty 1, .long), (ty 2, .boolean), (ty 3, .char), (ty 4, .object "java/lang/Object")] s := by
  have hg : ∀ w ∈ lw_good, w.before #[Value.ref b] s = true := fun w hw => hts w (List.mem_filter.mp hw).1
  have hk : ∀ c : Nat, ∃ z : ClassId × (Nat → Nat), ∀ q : vw_C, vwCl[c]? = some q → u_Kn s q.1 q.2.1 q.2.2 z.1 z.2 := fun c => by
    cases hc : vwCl[c]? with
    | none => exact ⟨(0, fun _ => 0), fun q e => nomatch e⟩
    | some q =>
      obtain ⟨cC, iS, hu⟩ := u_known hg (gIn hc) (hts _ (of_decide_eq_true (List.all_eq_true.mp stI q (List.mem_of_getElem? hc))))
      exact ⟨(cC, iS), fun q' e => by cases e; exact hu⟩
  have fa := List.all_eq_true.mp stA
  have va := fun (w : Cond) hw => hts w (of_decide_eq_true (fa w hw))
  obtain ⟨c0, a0, b0⟩ := st_arr (va (.arrayClass .int) (by simp))
  obtain ⟨c1, a1, b1⟩ := st_arr (va (.arrayClass .long) (by simp))
  obtain ⟨c2, a2, b2⟩ := st_arr (va (.arrayClass .boolean) (by simp))
  obtain ⟨c3, a3, b3⟩ := st_arr (va (.arrayClass .char) (by simp))
  obtain ⟨comp, c4, k4, h1, -, h3, h4, h5⟩ := Cond.arrayOver_spec (va (.arrayOver (.object "java/lang/Object")) (by simp))
  refine ⟨(fun c => (Classical.choose (hk c)).1, fun c => (Classical.choose (hk c)).2), fun k => if k = 0 then c0 else if k = 1 then c1 else if k = 2 then c2 else if k = 3 then c3 else c4, fun c q hq => Classical.choose_spec (hk c) q hq, fun k q hq => ?_⟩
  match k, hq with
  | 0, hq => cases hq; exact ⟨a0, b0⟩
  | 1, hq => cases hq; exact ⟨a1, b1⟩
  | 2, hq => cases hq; exact ⟨a2, b2⟩
  | 3, hq => cases hq; exact ⟨a3, b3⟩
  | 4, hq => cases hq; exact ⟨fun n z => ⟨fun k h => (by cases h), k4, h3, comp, h4⟩, k4, comp, h3, h4, h1, h5⟩
  | k + 5, hq => simp at hq
def gH0 : gHp := (fun _ => 0, fun _ _ _ => 0, fun _ _ _ => none, fun _ => 0, fun _ _ _ => 0, fun _ _ _ => 0, fun _ _ => none)
theorem whole_start {p : Program} {e : Env} {s : State} {m : MethodId} {below : List Frame} {meth : Method} {c : Code} (l : Launch) (hl : l.stackTraces = false) {b L : Nat} {xs : Nat → Int32} (hL : L ≤ 3584) (C0 : lw_At p s m meth c b L xs) : W p l e room_1 s m #[Value.ref b] below meth c s.heap [] 0 0 (lw_Z below #[Value.ref b] s) (entryFrame m ([Value.ref b] : List Value).toArray 7) := by
  obtain ⟨E, mi, sK, sV, hX⟩ := st_ext C0
  obtain ⟨hx, hb, hr, hml, hown, hts, hxs, hbl, hlo, hgv⟩ := id C0
  obtain ⟨D, ty, hK⟩ := st_K hts
  obtain ⟨xE, xT, xS, xN, xZ, xX⟩ := gExt_all (l := l) (D := D) (ty := ty) (base := s.heap.size) (E := E) (mi := mi) (sK := sK) (sV := sV) (xs := xs) hbl hL hl rfl
  have G := lw_entry (h0 := gH0) (Q := fun v _ => v = some (.int (nI 1))) xT xS xN xZ (fun u x o i c n xa h hi I hq => lc_20 xX xZ hi I hq) (fun h => rfl) (fun a => rfl)
  exact lw_go G ⟨hx, hb, hml, hr, hlo, hown, Or.inl rfl, fun w hw => hts w (List.mem_filter.mp hw).1, ⟨hK, hX⟩, Nat.le_refl _, xE⟩ ⟨[], fun a => ⟨fun h => absurd h List.not_mem_nil, fun h => absurd rfl h⟩, fun k q hk => (nomatch hk), ⟨fun i j p q hp => (nomatch hp), fun k q hk => (nomatch hk)⟩, Nat.le_refl _⟩ rfl
