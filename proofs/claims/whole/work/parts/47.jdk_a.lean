/-! THE JDK: rules for its static, for rows of references, for natives -/
/-- what is known of the cells that are not ours: E is ArrayList's empty row, mi the class object of Object[] -/
def gXt (B : gB) (E mi : Nat) : Prop := ∀ (U : State) (H : Heap), B.2.2.2.2 U H → va_Z "java/util/ArrayList" "DEFAULTCAPACITY_EMPTY_ELEMENTDATA" "[Ljava/lang/Object;" (.ref E) (gA B) U H ∧ va_T (.object "java/lang/Object") E 0 (fun _ => .null) (gA B) U H ∧ va_AO "java/lang/Object" U ∧ va_Mi "[Ljava/lang/Object;" mi U ∧ va_Dc U ∧ (∀ (ci : Nat) (q : vw_C), ci < 11 → vwCl[ci]? = some q → va_Nw (.castable q.1 "java/lang/Object") U) ∧ va_Nw (.castable "[I" "java/lang/Cloneable") U
theorem w_Sy : Cond.initialized "java/lang/System" ∈ lw_good := gMemW (ws := [Cond.initialized "java/lang/System"]) (by decide +kernel) _ (by simp)
theorem w_Acn : Cond.native arraycopyName ∈ lw_good := gMem (i := 355) rfl rfl
theorem w_Acs : Cond.static arraycopyName ∈ lw_good := gMem (i := 354) rfl rfl
theorem w_Acl : Cond.methodLink "java/util/Arrays" 150 arraycopyName ∈ lw_good := gMem (i := 353) rfl rfl
section GJDK
variable {B : gB} {m : gM} {d c n pc idx E mi : Nat} {lv : List (Nat × Value)} {st : List Value} {h : gHp} {Q : Option Value → gHp → Prop}
theorem gG_getsE (hX : gXt B E mi) (hdg : decode (gCd m) pc = .ok (.getstatic idx, 3)) (hlk : Cond.fieldLink (gY m).cls idx "java/util/ArrayList" "DEFAULTCAPACITY_EMPTY_ELEMENTDATA" "[Ljava/lang/Object;" ∈ lw_good) (kk : gG B m d c n (pc + 3) lv (.ref E :: st) h Q) : gG B m d c n pc lv st h Q := by
  intro p e s mi args below meth cd H locs cells slots ls C R S hl
  obtain ⟨hx, hcode, hml, hr, hlo, hown, hnm, hts, ⟨hKK, hEE⟩, hbs, hEx⟩ := id C
  refine va_gets hx hcode (hX s s.heap hEE).1 S hown (hts _ hlk) (fun _ h => h) hdg ?_
  exact kk p e s mi args below meth cd H locs cells slots ls C R S hl
theorem gG_lenE (hX : gXt B E mi) (hdg : decode (gCd m) pc = .ok (.arraylength, 1)) (kk : gG B m d c n (pc + 1) lv (.int (nI 0) :: st) h Q) : gG B m d c n pc lv (.ref E :: st) h Q := by
  intro p e s mi args below meth cd H locs cells slots ls C R S hl
  obtain ⟨hx, hcode, hml, hr, hlo, hown, hnm, hts, ⟨hKK, hEE⟩, hbs, hEx⟩ := id C
  refine va_tlen hx hcode (hX s s.heap hEE).2.1 S rfl hdg ?_
  exact kk p e s mi args below meth cd H locs cells slots ls C R S hl
theorem gG_acmp_eq {x y : Nat} {off : Int} {tgt : Nat} (hdg : decode (gCd m) pc = .ok (.if_acmp .eq off, 3)) (ht : (pc : Int) + off = (tgt : Int)) (kt : x = y → gG B m d c n tgt lv st h Q) (kf : ¬ x = y → gG B m d c n (pc + 3) lv st h Q) : gG B m d c n pc lv (.ref y :: .ref x :: st) h Q := by
  intro p e s mi args below meth cd H locs cells slots ls C R S hl
  obtain ⟨hx, hcode, -⟩ := id C
  refine lv_acmp_eq (rx := some x) (ry := some y) hx hcode hdg ht (fun e => ?_) (fun e => ?_)
  · exact kt (Option.some.inj e) p _ s mi args below meth cd H locs cells slots ls C R S hl
  · exact kf (fun q => e (by rw [q])) p _ s mi args below meth cd H locs cells slots ls C R S hl
theorem gG_acmp_ne {x y : Nat} {off : Int} {tgt : Nat} (hdg : decode (gCd m) pc = .ok (.if_acmp .ne off, 3)) (ht : (pc : Int) + off = (tgt : Int)) (kt : ¬ x = y → gG B m d c n tgt lv st h Q) (kf : x = y → gG B m d c n (pc + 3) lv st h Q) : gG B m d c n pc lv (.ref y :: .ref x :: st) h Q := by
  intro p e s mi args below meth cd H locs cells slots ls C R S hl
  obtain ⟨hx, hcode, -⟩ := id C
  refine lv_acmp_ne (rx := some x) (ry := some y) hx hcode hdg ht (fun e => ?_) (fun e => ?_)
  · exact kt (fun q => e (by rw [q])) p _ s mi args below meth cd H locs cells slots ls C R S hl
  · exact kf (Option.some.inj e) p _ s mi args below meth cd H locs cells slots ls C R S hl
theorem gG_newq {N : Nat} {x : Int32} (hX : gXt B E mi) (hdg : decode (gCd m) pc = .ok (.anewarray idx, 3)) (hw : Cond.classLink (gY m).cls idx "java/lang/Object" ∈ lw_good) (hx0 : ¬ x < 0) (hxN : x.toNatClampNeg = N) (hN : N ≤ 1000000) (kk : ∀ a, hK h a = 0 → gG B m d c n (pc + 3) lv (.ref a :: st) (nA h 16 a N) Q) : gG B m d (c + 1) (n + N) pc lv (.int x :: st) h Q := by
  intro p e s mi args below meth cd H locs cells slots ls C R S hl
  obtain ⟨L, hL, hP, hD, hb⟩ := id R
  obtain ⟨hx, hcode, hml, hr, hlo, hown, hnm, hts, ⟨hKK, hEE⟩, hbs, hEx⟩ := id C
  refine va_newq hx hcode hown (hts _ hw) (hX s s.heap hEE).2.2.1 hKK hP hD S (fun q hq => Nat.le_trans hbs hq) hx0 hxN (by omega) (by simp only [gRm]; omega) (by simp only [gRm]; omega) hdg ?_
  intro a cA H1 hK1 hP1 hD1 hS1
  have hcA : cA = B.2.2.1 4 := by
    have e1 := (hK1.2 5 (cA, .object "java/lang/Object") rfl).2
    have e2 := (hK1.2 4 (B.2.2.1 4, .object "java/lang/Object") rfl).2
    exact Option.some.inj ((va_nmO e1 rfl).symm.trans (va_nmO e2 rfl))
  subst hcA
  obtain ⟨h0, hR1⟩ := gRel_new (h' := nA h 16 a N) hL (t := 16) (by omega) rfl (fun _ => gCell_up (by rw [gCell_q (by simp [hK_nA, va_up_eq])]; simp [hN_nA, hO_nA, va_up_eq]) (fun b hb => gCell_nA b hb)) hP1 hD1 (hS1.base hbs)
  have K := kk a h0 p e s mi args below meth cd H1 locs (cells + 1) (slots + N) ls C hR1 hS1 hl
  rw [show cells + 1 + c = cells + (c + 1) by omega, show slots + N + n = slots + (n + N) by omega] at K
  exact K
theorem gG_aast {a v ci : Nat} {i : Int32} {q : vw_C} (hX : gXt B E mi) (hdg : decode (gCd m) pc = .ok (.aastore, 1)) (ha : hK h a = 16) (hin : vp_in i (hN h a)) (hcl : vwCl[ci]? = some q) (hc : ci < 11) (hv : hK h v = ci + 1) (kk : gG B m d c n (pc + 1) lv st (sO h a (va_up (hO h a) i.toNatClampNeg (some v))) Q) : gG B m d c n pc lv (.ref v :: .int i :: .ref a :: st) h Q := by
  intro p e s mi args below meth cd H locs cells slots ls C R S hl
  obtain ⟨L, hL, hP, hD, hb⟩ := id R
  obtain ⟨hx, hcode, hml, hr, hlo, hown, hnm, hts, ⟨hKK, hEE⟩, hbs, hEx⟩ := id C
  have haL : a ∈ L := (hL a).mpr (by omega)
  obtain ⟨q0, hq⟩ := gRel_at (f := gCell B.2.2.1 h) haL
  have hq0 := hq
  rw [gCell_q ha] at hq0
  have hvL : v ∈ L := (hL v).mpr (by omega)
  obtain ⟨qk, hqk⟩ := gRel_at (f := gCell B.2.2.1 h) hvL
  rw [gCell_o hv hc] at hqk
  refine va_astqO hx hcode hKK hP hD S q0 4 qk ci hq0 rfl ((hX s s.heap hEE).2.2.2.2.2.1 ci q hc hcl) hqk hcl hin hdg ?_
  intro H1 locs1 hP1 hD1 hS1
  refine kk p e s mi args below meth cd H1 locs1 cells slots ls C (gRel_put hL hD haL hq rfl (gCell_up ?_ (fun b hb => gCell_sO b hb)) hP1 hD1 (hS1.base hbs)) hS1 hl
  rw [gCell_q (h := sO h a (va_up (hO h a) i.toNatClampNeg (some v))) ha]; simp [hN_sO, hO_sO, va_up_eq]
end GJDK
