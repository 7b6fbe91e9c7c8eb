/-! THE JDK: natives, casts, an inherited field -/
theorem w_gcl : Cond.methodLink "java/util/Arrays" 86 ⟨"java/lang/Object", "getClass", "()Ljava/lang/Class;"⟩ ∈ lw_good := gMem (i := 328) rfl rfl
theorem w_gci : Cond.instanceMethod ⟨"java/lang/Object", "getClass", "()Ljava/lang/Class;"⟩ ∈ lw_good := gMem (i := 329) rfl rfl
theorem w_gcn : Cond.native ⟨"java/lang/Object", "getClass", "()Ljava/lang/Class;"⟩ ∈ lw_good := gMem (i := 343) rfl rfl
set_option maxRecDepth 100000 in
theorem w_gcs : Cond.selects "[Ljava/lang/Object;" ⟨"java/lang/Object", "getClass", "()Ljava/lang/Class;"⟩ ⟨"java/lang/Object", "getClass", "()Ljava/lang/Class;"⟩ ∈ lw_good := gMem (i := 1532) rfl rfl
theorem w_cml : Cond.methodLink "java/util/Arrays" 316 ⟨"[I", "clone", "()Ljava/lang/Object;"⟩ ∈ lw_good := gMem (i := 395) rfl rfl
theorem w_cms : Cond.sameMethod "[I" "java/lang/Object" "clone" "()Ljava/lang/Object;" ∈ lw_good := gMem (i := 396) rfl rfl
theorem w_cmn : Cond.native ⟨"java/lang/Object", "clone", "()Ljava/lang/Object;"⟩ ∈ lw_good := gMem (i := 397) rfl rfl
theorem w_cmi : Cond.instanceMethod ⟨"java/lang/Object", "clone", "()Ljava/lang/Object;"⟩ ∈ lw_good := gMem (i := 398) rfl rfl
theorem w_cmc : Cond.selects "[I" ⟨"[I", "clone", "()Ljava/lang/Object;"⟩ ⟨"java/lang/Object", "clone", "()Ljava/lang/Object;"⟩ ∈ lw_good := gMem (i := 399) rfl rfl
theorem w_ckI : Cond.classLink "java/util/Arrays" 317 "[I" ∈ lw_good := gMem (i := 401) rfl rfl
theorem w_sfm : Cond.sameField "java/util/ArrayList" "java/util/AbstractList" "modCount" "I" ∈ lw_good := gMem (i := 131) rfl rfl
theorem w_flm : Cond.fieldLink "java/util/ArrayList" 63 "java/util/ArrayList" "modCount" "I" ∈ lw_good := gMemW (ws := [Cond.fieldLink "java/util/ArrayList" 63 "java/util/ArrayList" "modCount" "I"]) (by decide +kernel) _ (by simp)
theorem gNat5 : nativeFrameWords "java/lang/System" "arraycopy" 5 = 7 := by decide
section GJDB
variable {B : gB} {m : gM} {d c n pc idx E mi : Nat} {lv : List (Nat × Value)} {st : List Value} {h : gHp} {Q : Option Value → gHp → Prop}
theorem gG_ldcM (hX : gXt B E mi) (hdg : decode (gCd m) pc = .ok (.ldc idx, 2)) (hw : Cond.classLink (gY m).cls idx "[Ljava/lang/Object;" ∈ lw_good) (kk : gG B m d c n (pc + 2) lv (.ref mi :: st) h Q) : gG B m d c n pc lv st h Q := by
  intro p e s mi' args below meth cd H locs cells slots ls C R S hl
  obtain ⟨hx, hcode, hml, hr, hlo, hown, hnm, hts, ⟨hKK, hEE⟩, hbs, hEx⟩ := id C
  refine va_ldcM hx hcode hown (hts _ hw) (hX s s.heap hEE).2.2.2.1 hdg ?_
  exact kk p e s mi' args below meth cd H locs cells slots ls C R S hl
theorem gG_getC {a : Nat} (hX : gXt B E mi) (hcls : (gY m).cls = "java/util/Arrays") (hdg : decode (gCd m) pc = .ok (.invokevirtual 86, 3)) (ha : hK h a = 16) (hr : (st.map fun v => v.category).sum ≤ 8) (kk : gG B m (d + 1) c n (pc + 3) lv (.ref mi :: st) h Q) : gG B m (d + 1) c n pc lv (.ref a :: st) h Q := by
  intro p e s mi' args below meth cd H locs cells slots ls C R S hl
  obtain ⟨L, hL, hP, hD, hb⟩ := id R
  obtain ⟨hx, hcode, hml, hrr, hlo, hown, hnm, hts, ⟨hKK, hEE⟩, hbs, hEx⟩ := id C
  have haL : a ∈ L := (hL a).mpr (by omega)
  obtain ⟨q0, hq⟩ := gRel_at (f := gCell B.2.2.1 h) haL
  rw [gCell_q ha] at hq
  obtain ⟨-, -, -, x4, x5, -⟩ := hX s s.heap hEE
  rw [hcls] at hown
  refine va_getC hx hcode (by rw [hml]; exact hl.1.symm) hown (hts _ w_gcl) (va_Dc.use x5) (hts _ w_gcs) (hts _ w_gci) (hts _ w_gcn) x4 ⟨_, hP q0 _ hq, rfl, ?_⟩ (by simp only [gRm]; omega) (by simp only [gRm]; omega) hdg ?_
  · exact va_nmO (hKK.2 4 (B.2.2.1 4, .object "java/lang/Object") rfl).2 rfl
  · exact kk p e s mi' args below meth cd H locs cells slots ls C R S hl
theorem gG_copyq {a0 a k ci : Nat} {q : vw_C} (hX : gXt B E mi) (hcls : (gY m).cls = "java/util/Arrays") (hdg : decode (gCd m) pc = .ok (.invokestatic 150, 3)) (ha0 : hK h a0 = 16) (ha : hK h a = 16) (hk : k < 2 ^ 31) (hk0 : k ≤ hN h a0) (hk1 : k ≤ hN h a) (hcl : vwCl[ci]? = some q) (hc : ci < 11) (hel : ∀ i y, i < k → hO h a0 i = some y → hK h y = ci + 1) (hr : (st.map fun v => v.category).sum ≤ 8) (kk : gG B m (d + 1) c n (pc + 3) lv st (sO h a (fun i => if i < k then hO h a0 i else hO h a i)) Q) : gG B m (d + 1) c n pc lv (.int (nI k) :: .int (nI 0) :: .ref a :: .int (nI 0) :: .ref a0 :: st) h Q := by
  intro p e s mi' args below meth cd H locs cells slots ls C R S hl
  obtain ⟨L, hL, hP, hD, hb⟩ := id R
  obtain ⟨hx, hcode, hml, hrr, hlo, hown, hnm, hts, ⟨hKK, hEE⟩, hbs, hEx⟩ := id C
  have haL : a ∈ L := (hL a).mpr (by omega)
  obtain ⟨q1, hq⟩ := gRel_at (f := gCell B.2.2.1 h) haL
  have hq1 := hq
  rw [gCell_q ha] at hq1
  have haL0 : a0 ∈ L := (hL a0).mpr (by omega)
  obtain ⟨q0, hq0⟩ := gRel_at (f := gCell B.2.2.1 h) haL0
  rw [gCell_q ha0] at hq0
  have hca := (hX s s.heap hEE).2.2.2.2.2.1 ci q hc hcl
  rw [hcls] at hown
  have ek : (nI k).toNatClampNeg = k := nI_clamp hk
  refine va_copyq (C := q.1) (sp := nI 0) (dp := nI 0) (n := nI k) hx hcode (by rw [hml]; exact hl.1.symm) hown (hts _ w_Acl) (hts _ w_Acn) (hts _ w_Acs) (hts _ w_Sy) hKK hP hD S q0 q1 4 4 hq0 hq1 rfl rfl (by decide) (by decide) (nI_pos hk) (by rw [ek, show (nI 0).toNatClampNeg = 0 from rfl]; omega) (by rw [ek, show (nI 0).toNatClampNeg = 0 from rfl]; omega) ?_ ?_ (by simp only [gRm]; omega) (by rw [gNat5]; simp only [gRm]; omega) hdg ?_
  · intro i hi y hy
    rw [ek] at hi
    rw [show (nI 0).toNatClampNeg = 0 from rfl, Nat.zero_add] at hy
    have hky := hel i y hi hy
    have hyL : y ∈ L := (hL y).mpr (by omega)
    obtain ⟨qk, hqk⟩ := gRel_at (f := gCell B.2.2.1 h) hyL
    rw [gCell_o hky hc] at hqk
    exact va_recv hKK hP hcl hqk
  · intro comp c0 h1 h2
    obtain ⟨c0', t1, f1, f2, f3⟩ := Cond.castable_spec (va_Nw.use (A := args) rfl hca)
    cases h2.symm.trans f1
    cases h1.symm.trans f2
    exact f3
  · intro H1 locs1 hP1 hD1 hS1
    refine kk p e s mi' args below meth cd H1 locs1 cells slots ls C (gRel_put hL hD haL hq rfl (gCell_up ?_ (fun b hb => gCell_sO b hb)) hP1 hD1 (hS1.base hbs)) hS1 hl
    rw [gCell_q (h := sO h a _) ha]
    simp only [hN_sO, hO_sO, va_up_eq, if_true, ek, show (nI 0).toNatClampNeg = 0 from rfl]
    have ec : va_cpy (hO h a0) (hO h a) 0 0 k = fun i => if i < k then hO h a0 i else hO h a i := by
      funext i
      simp [va_cpy]
    rw [ec]
theorem gG_copyi {a0 a k : Nat} (hcls : (gY m).cls = "java/util/Arrays") (hdg : decode (gCd m) pc = .ok (.invokestatic 150, 3)) (ha0 : hK h a0 = 12) (ha : hK h a = 12) (hk : k < 2 ^ 31) (hk0 : k ≤ hN h a0) (hk1 : k ≤ hN h a) (hr : (st.map fun v => v.category).sum ≤ 8) (kk : gG B m (d + 1) c n (pc + 3) lv st (sA h 12 a (fun i => if i < k then hA h 12 a0 i else hA h 12 a i)) Q) : gG B m (d + 1) c n pc lv (.int (nI k) :: .int (nI 0) :: .ref a :: .int (nI 0) :: .ref a0 :: st) h Q := by
  intro p e s mi' args below meth cd H locs cells slots ls C R S hl
  obtain ⟨L, hL, hP, hD, hb⟩ := id R
  obtain ⟨hx, hcode, hml, hrr, hlo, hown, hnm, hts, ⟨hKK, hEE⟩, hbs, hEx⟩ := id C
  have haL : a ∈ L := (hL a).mpr (by omega)
  obtain ⟨q1, hq⟩ := gRel_at (f := gCell B.2.2.1 h) haL
  have hq1 := hq
  rw [gCell_i ha (Or.inl rfl)] at hq1
  have haL0 : a0 ∈ L := (hL a0).mpr (by omega)
  obtain ⟨q0, hq0⟩ := gRel_at (f := gCell B.2.2.1 h) haL0
  rw [gCell_i ha0 (Or.inl rfl)] at hq0
  rw [hcls] at hown
  have ek : (nI k).toNatClampNeg = k := nI_clamp hk
  refine va_copyi (ty := .int) (sp := nI 0) (dp := nI 0) (n := nI k) hx hcode (by rw [hml]; exact hl.1.symm) hown (hts _ w_Acl) (hts _ w_Acn) (hts _ w_Acs) (hts _ w_Sy) hKK hP hD S q0 q1 0 0 hq0 hq1 rfl rfl rfl (by decide) (by decide) (nI_pos hk) (by rw [ek, show (nI 0).toNatClampNeg = 0 from rfl]; omega) (by rw [ek, show (nI 0).toNatClampNeg = 0 from rfl]; omega) (fun _ _ => rfl) (by simp only [gRm]; omega) (by rw [gNat5]; simp only [gRm]; omega) hdg ?_
  intro H1 locs1 hP1 hD1 hS1
  refine kk p e s mi' args below meth cd H1 locs1 cells slots ls C (gRel_put hL hD haL hq rfl (gCell_up ?_ (fun b hb => gCell_sA ha b hb)) hP1 hD1 (hS1.base hbs)) hS1 hl
  rw [gCell_i (h := sA h 12 a _) (t := 12) ha (Or.inl rfl)]
  simp only [hN_sA, hA_sA, up2_eq, and_self, if_true, ek, show (nI 0).toNatClampNeg = 0 from rfl]
  have ec : va_cpy (hA h 12 a0) (hA h 12 a) 0 0 k = fun i => if i < k then hA h 12 a0 i else hA h 12 a i := by
    funext i
    simp [va_cpy]
  rw [ec]
theorem gG_clone {a N : Nat} (hX : gXt B E mi) (hcls : (gY m).cls = "java/util/Arrays") (hdg : decode (gCd m) pc = .ok (.invokevirtual 316, 3)) (ha : hK h a = 12) (hNa : hN h a = N) (hr : (st.map fun v => v.category).sum ≤ 8) (kk : ∀ a', hK h a' = 0 → gG B m (d + 1) c n (pc + 3) lv (.ref a' :: st) (sA (nA h 12 a' N) 12 a' (hA h 12 a)) Q) : gG B m (d + 1) (c + 1) (n + N) pc lv (.ref a :: st) h Q := by
  intro p e s mi' args below meth cd H locs cells slots ls C R S hl
  obtain ⟨L, hL, hP, hD, hb⟩ := id R
  obtain ⟨hx, hcode, hml, hrr, hlo, hown, hnm, hts, ⟨hKK, hEE⟩, hbs, hEx⟩ := id C
  have haL : a ∈ L := (hL a).mpr (by omega)
  obtain ⟨q0, hq⟩ := gRel_at (f := gCell B.2.2.1 h) haL
  rw [gCell_i ha (Or.inl rfl)] at hq
  rw [hcls] at hown
  refine va_clone hx hcode (by rw [hml]; exact hl.1.symm) hown (hts _ w_cml) (hts _ w_cms) (hts _ w_cmn) (hts _ w_cmi) (hts _ w_cmc) (hX s s.heap hEE).2.2.2.2.2.2 hKK hP hD S (fun q hq => Nat.le_trans hbs hq) q0 0 hq rfl (hKK.2 0 (B.2.2.1 0, .int) rfl).2 ?_ (by simp only [gRm]; omega) (by simp only [gRm]; omega) (by simp only [gRm]; omega) (by simp only [gRm]; omega) hdg ?_
  · intro i v hv
    change (arrV (B.2.2.1 0) (hN h a) (fun j => .int (hA h 12 a j))).slots[i]? = some v at hv
    rcases Nat.lt_or_ge i (hN h a) with q | q
    · rw [arrV_read _ _ q] at hv
      cases hv
      rfl
    · rw [Array.getElem?_eq_none (by rw [arrV_size]; exact q)] at hv
      cases hv
  · intro a' H1 hK1 hP1 hD1 hS1
    obtain ⟨h0, hR1⟩ := gRel_new (h' := sA (nA h 12 a' N) 12 a' (hA h 12 a)) hL (t := 12) (by omega) rfl (fun _ => gCell_up (by rw [gCell_i (t := 12) (by simp [hK_sA, hK_nA, va_up_eq]) (Or.inl rfl)]; simp [hN_sA, hN_nA, hA_sA, hA_nA, va_up_eq, up2, hNa]) (fun b hb => by rw [gCell_sA (by simp [hK_nA, va_up_eq]) b hb]; exact gCell_nA b hb)) hP1 hD1 (hS1.base hbs)
    have K := kk a' h0 p e s mi' args below meth cd H1 locs (cells + 1) (slots + N) ls C hR1 hS1 hl
    simp only [hNa]
    rw [show cells + 1 + c = cells + (c + 1) by omega, show slots + N + n = slots + (n + N) by omega] at K
    exact K
theorem gG_castI {a : Nat} (hcls : (gY m).cls = "java/util/Arrays") (hdg : decode (gCd m) pc = .ok (.checkcast 317, 3)) (ha : hK h a = 12) (kk : gG B m d c n (pc + 3) lv (.ref a :: st) h Q) : gG B m d c n pc lv (.ref a :: st) h Q := by
  intro p e s mi' args below meth cd H locs cells slots ls C R S hl
  obtain ⟨L, hL, hP, hD, hb⟩ := id R
  obtain ⟨hx, hcode, hml, hrr, hlo, hown, hnm, hts, ⟨hKK, hEE⟩, hbs, hEx⟩ := id C
  have haL : a ∈ L := (hL a).mpr (by omega)
  obtain ⟨q0, hq⟩ := gRel_at (f := gCell B.2.2.1 h) haL
  rw [gCell_i ha (Or.inl rfl)] at hq
  rw [hcls] at hown
  refine va_castA hx hcode hown (hts _ w_ckI) hP q0 hq (hKK.2 0 (B.2.2.1 0, .int) rfl).2 hdg ?_
  exact kk p e s mi' args below meth cd H locs cells slots ls C R S hl
theorem gG_getM {a : Nat} (hcls : (gY m).cls = "java/util/ArrayList") (hdg : decode (gCd m) pc = .ok (.getfield 63, 3)) (ha : hK h a = 1) (kk : gG B m d c n (pc + 3) lv (.int (hI h 0 0 a) :: st) h Q) : gG B m d c n pc lv (.ref a :: st) h Q := by
  intro p e s mi args below meth cd H locs cells slots ls C R S hl
  obtain ⟨L, hL, hP, hD, hb⟩ := id R
  obtain ⟨hx, hcode, hml, hr, hlo, hown, hnm, hts, ⟨hKK, hEE⟩, hbs, hEx⟩ := id C
  have haL : a ∈ L := (hL a).mpr (by omega)
  obtain ⟨q0, hq⟩ := gRel_at (f := gCell B.2.2.1 h) haL
  rw [gCell_o (c := 0) ha (by omega)] at hq
  rw [hcls] at hown
  refine va_get hx hcode hts (gIn (c := 0) rfl) hown hKK hP q0 hq rfl 0 (by decide) (hts _ w_flm) (fun x ho => u_same (hts _ w_sfm) x ho) (gFl_at (by decide)) hdg ?_
  exact kk p e s mi args below meth cd H locs cells slots ls C R S hl
theorem gG_putM {a : Nat} {v : Int32} (hcls : (gY m).cls = "java/util/ArrayList") (hdg : decode (gCd m) pc = .ok (.putfield 63, 3)) (ha : hK h a = 1) (kk : gG B m d c n (pc + 3) lv st (sI h 0 0 a v) Q) : gG B m d c n pc lv (.int v :: .ref a :: st) h Q := by
  intro p e s mi args below meth cd H locs cells slots ls C R S hl
  obtain ⟨L, hL, hP, hD, hb⟩ := id R
  obtain ⟨hx, hcode, hml, hr, hlo, hown, hnm, hts, ⟨hKK, hEE⟩, hbs, hEx⟩ := id C
  have haL : a ∈ L := (hL a).mpr (by omega)
  obtain ⟨q0, hq⟩ := gRel_at (f := gCell B.2.2.1 h) haL
  have hq0 := hq
  rw [gCell_o (c := 0) ha (by omega)] at hq0
  rw [hcls] at hown
  obtain ⟨ty0, hty0⟩ := gTyO (c := 0) rfl
  refine va_put hx hcode hts (gIn (c := 0) rfl) ty0 hty0 (gNmO (c := 0) rfl) hown hKK hP hD S q0 hq0 rfl 0 (by decide) (hts _ w_flm) (fun x ho => u_same (hts _ w_sfm) x ho) rfl (ty := .int) (by decide) rfl rfl (by rw [gFl_len]; decide) hdg ?_
  intro H1 locs1 hP1 hD1 hS1
  exact kk p e s mi args below meth cd H1 locs1 cells slots ls C (gRel_put hL hD haL hq rfl (gCell_sI (c := 0) (k := 0) ha (by omega) (by decide)) hP1 hD1 (hS1.base hbs)) hS1 hl
end GJDB
