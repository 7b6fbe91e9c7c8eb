/-! THE DESK: addToldPage, page -/
section X8P
variable {B : gB} {h h' : gHp} {d E v mi : Nat} {Y : gYm} {ow : Nat → gTag} {rl : List (Nat × List (Nat × Nat))} {s : Nat → Nat} {a : Nat → Nat → Nat} {Q : Option Value → gHp → Prop}
set_option maxRecDepth 100000 in
set_option maxHeartbeats 800000 in
theorem x_page_init {x p t : Nat} {w : Int32} (kx : hK h x = 4) (hq : Q none (sR (sR (sI h 3 0 x w) 3 1 x (some p)) 3 2 x (some t))) : gFn B mX2_init (d + 1) 0 0 [.ref x, .int w, .ref p, .ref t] h Q := by
  refine gStartX (cut := []) pnX2_init okX2_init (Nat.le_of_ble_eq_true rfl) 60 ?_
  simp only [axC_nil, axC_hit, axC_def, cutAt, lvLive, Option.isSome_none, Option.isSome_some, catS, lvGet, lvIns, lvSet1, lvSet2, gLit_0, gLit_1, lv_args, fv0, fv1, fv2, fv3, isI_s, isL_s, isRf_s, isRf_n, gtI_s, gtL_s, gtV_s, gFilter_nil, gFilter_cons, gL1, gL2, gL3, gL4, gL5, va_rf_s, va_rf_n, hK_sI, hK_sR, hK_sA, hK_sJ, hK_sO, hI_sI, hI_sR, hI_sA, hI_sJ, hI_sO, hR_sI, hR_sR, hR_sA, hR_sJ, hR_sO, hN_sI, hN_sR, hN_sA, hN_sJ, hN_sO, hA_sI, hA_sR, hA_sA, hA_sJ, hA_sO, hJ_sI, hJ_sR, hJ_sA, hJ_sJ, hJ_sO, hO_sI, hO_sR, hO_sA, hO_sJ, hO_sO, up3_eq, up2_eq, List.map_cons, List.map_nil, List.sum_cons, List.sum_nil, List.nil_append, List.cons_append, Option.toList_some, Option.toList_none, true_and, and_true, if_true, if_false, and_self, true_or, or_true, or_false, false_or, false_and, and_false, not_true_eq_false, not_false_eq_true, forall_const, reduceCtorEq, implies_true, List.contains_cons, List.contains_nil, Bool.or_false, Bool.false_or, Bool.or_true, Bool.true_or, Bool.and_true, Bool.true_and, Bool.and_false, Bool.false_and, Bool.not_true, Bool.not_false, BEq.rfl, Bool.false_eq_true, Bool.true_eq_false, eq_self, ↓reduceIte, Nat.reduceAdd, Nat.reduceEqDiff, Nat.reduceBEq, Nat.reduceLT, Nat.reduceLeDiff, Nat.reduceSub, Nat.reduceMul, Nat.reduceBNe, List.append_nil, Nat.zero_le, Nat.zero_add, Nat.zero_ne_one, Nat.one_ne_zero, false_implies, true_implies, not_false_eq_true, ne_eq, upd_e, updL_e, bI_zo, nI0z, nI1o, nI1z, nI0o, nI0q, nI1q, nm1_lt, nm1_ge, ax_aload_n tX2_init_0, ax_obj tX2_init_1, ax_aload_n tX2_init_4, ax_iload_n tX2_init_5, ax_putI tX2_init_6, ax_aload_n tX2_init_9, ax_aload_n tX2_init_10, ax_putR tX2_init_11, ax_putN tX2_init_11, ax_aload_n tX2_init_14, ax_aload_n tX2_init_15, ax_putR tX2_init_16, ax_putN tX2_init_16, ax_vret tX2_init_19]
  refine gAx (cut := []) okX2_init 60 ?_
  simp only [axC_nil, axC_hit, axC_def, cutAt, lvLive, Option.isSome_none, Option.isSome_some, catS, lvGet, lvIns, lvSet1, lvSet2, gLit_0, gLit_1, lv_args, fv0, fv1, fv2, fv3, isI_s, isL_s, isRf_s, isRf_n, gtI_s, gtL_s, gtV_s, gFilter_nil, gFilter_cons, gL1, gL2, gL3, gL4, gL5, va_rf_s, va_rf_n, hK_sI, hK_sR, hK_sA, hK_sJ, hK_sO, hI_sI, hI_sR, hI_sA, hI_sJ, hI_sO, hR_sI, hR_sR, hR_sA, hR_sJ, hR_sO, hN_sI, hN_sR, hN_sA, hN_sJ, hN_sO, hA_sI, hA_sR, hA_sA, hA_sJ, hA_sO, hJ_sI, hJ_sR, hJ_sA, hJ_sJ, hJ_sO, hO_sI, hO_sR, hO_sA, hO_sJ, hO_sO, up3_eq, up2_eq, List.map_cons, List.map_nil, List.sum_cons, List.sum_nil, List.nil_append, List.cons_append, Option.toList_some, Option.toList_none, true_and, and_true, if_true, if_false, and_self, true_or, or_true, or_false, false_or, false_and, and_false, not_true_eq_false, not_false_eq_true, forall_const, reduceCtorEq, implies_true, List.contains_cons, List.contains_nil, Bool.or_false, Bool.false_or, Bool.or_true, Bool.true_or, Bool.and_true, Bool.true_and, Bool.and_false, Bool.false_and, Bool.not_true, Bool.not_false, BEq.rfl, Bool.false_eq_true, Bool.true_eq_false, eq_self, ↓reduceIte, Nat.reduceAdd, Nat.reduceEqDiff, Nat.reduceBEq, Nat.reduceLT, Nat.reduceLeDiff, Nat.reduceSub, Nat.reduceMul, Nat.reduceBNe, List.append_nil, Nat.zero_le, Nat.zero_add, Nat.zero_ne_one, Nat.one_ne_zero, false_implies, true_implies, not_false_eq_true, ne_eq, upd_e, updL_e, bI_zo, nI0z, nI1o, nI1z, nI0o, nI0q, nI1q, nm1_lt, nm1_ge, ax_aload_n tX2_init_0, ax_obj tX2_init_1, ax_aload_n tX2_init_4, ax_iload_n tX2_init_5, ax_putI tX2_init_6, ax_aload_n tX2_init_9, ax_aload_n tX2_init_10, ax_putR tX2_init_11, ax_putN tX2_init_11, ax_aload_n tX2_init_14, ax_aload_n tX2_init_15, ax_putR tX2_init_16, ax_putN tX2_init_16, ax_vret tX2_init_19, kx]
  exact hq
set_option maxRecDepth 100000 in
set_option maxHeartbeats 6400000 in
/-- behind the text: the page is made and listed -/
theorem x_told_end {p t xp : Nat} (hX : gXt B E mi) (hd : DS E Y ow v rl h s a) (wg : ∀ g, g < s 31 → a 32 g < s 27 ∧ a 33 g < s 36) (b31 : s 31 < 120) (hp : p < s 27) (ht : t < s 36) (a32 : a 32 (s 31) = p) (a33 : a 33 (s 31) = t) (ox : ow xp = (3, s 31, 0)) (kx : hK h xp = 4) (hq : ∀ h' Y6 ow6, DS E Y6 ow6 v rl h' (pgS s) a → FRO ow [(3, s 31, 0), (0, 6, 0), (1, 6, 0), (2, p, 3), (2, p, 1), (0, 0, 0)] h h' → (∀ b, hK h b ≠ 0 → ow6 b = ow b) → Y6 0 = Y 0 → (∀ i, Y6 2 i 0 = Y 2 i 0) → Q none h') : gG B mX8_addToldPage (d + 8) 2 740 16 [(0, .ref (Y 0 0 0)), (1, .ref (Y 2 p 0))] [.ref (Y 4 t 0), .ref (Y 2 p 0), .int (nI (s 31)), .ref xp, .ref xp] h Q := by
  obtain ⟨own, d0, df, dt, db, dl, dp, dg, dx, da, dh, du, dr⟩ := id hd
  obtain ⟨c0, i24, i25, i44, ⟨r1, r3, r5, r6, r7, r8, r9⟩, ⟨r11, r12, r13⟩, hm, hm1, hm2, hm3⟩ := id d0
  have o00 := (own 0 0 0 (And.intro (by omega) (by omega))).2
  have o06 := (own 0 6 0 (And.intro (by omega) (by omega))).2
  have o16 : s 31 ≠ 0 → ow (Y 1 6 0) = (1, 6, 0) := fun q => (own 1 6 0 (And.intro rfl (by omega))).2
  have o23 := (own 2 p 3 (And.intro (by omega) (by omega))).2
  have v21 : pgN s a p ≠ 0 → vld s a 2 p 1 := fun q => And.intro hp (Or.inr (Or.inr ⟨rfl, by omega⟩))
  have o21 : pgN s a p ≠ 0 → ow (Y 2 p 1) = (2, p, 1) := fun q => (own 2 p 1 (v21 q)).2
  have pn : pgN s a p ≤ s 31 := cntN_le _ _
  refine gAx (cut := []) okX8_addToldPage 40 ?_
  simp only [axC_nil, axC_hit, axC_def, cutAt, lvLive, Option.isSome_none, Option.isSome_some, catS, lvGet, lvIns, lvSet1, lvSet2, gLit_0, gLit_1, lv_args, fv0, fv1, fv2, fv3, isI_s, isL_s, isRf_s, isRf_n, gtI_s, gtL_s, gtV_s, gFilter_nil, gFilter_cons, gL1, gL2, gL3, gL4, gL5, va_rf_s, va_rf_n, hK_sI, hK_sR, hK_sA, hK_sJ, hK_sO, hI_sI, hI_sR, hI_sA, hI_sJ, hI_sO, hR_sI, hR_sR, hR_sA, hR_sJ, hR_sO, hN_sI, hN_sR, hN_sA, hN_sJ, hN_sO, hA_sI, hA_sR, hA_sA, hA_sJ, hA_sO, hJ_sI, hJ_sR, hJ_sA, hJ_sJ, hJ_sO, hO_sI, hO_sR, hO_sA, hO_sJ, hO_sO, up3_eq, up2_eq, List.map_cons, List.map_nil, List.sum_cons, List.sum_nil, List.nil_append, List.cons_append, Option.toList_some, Option.toList_none, true_and, and_true, if_true, if_false, and_self, true_or, or_true, or_false, false_or, false_and, and_false, not_true_eq_false, not_false_eq_true, forall_const, reduceCtorEq, implies_true, List.contains_cons, List.contains_nil, Bool.or_false, Bool.false_or, Bool.or_true, Bool.true_or, Bool.and_true, Bool.true_and, Bool.and_false, Bool.false_and, Bool.not_true, Bool.not_false, BEq.rfl, Bool.false_eq_true, Bool.true_eq_false, eq_self, ↓reduceIte, Nat.reduceAdd, Nat.reduceEqDiff, Nat.reduceBEq, Nat.reduceLT, Nat.reduceLeDiff, Nat.reduceSub, Nat.reduceMul, Nat.reduceBNe, List.append_nil, Nat.zero_le, Nat.zero_add, Nat.zero_ne_one, Nat.one_ne_zero, false_implies, true_implies, not_false_eq_true, ne_eq, upd_e, updL_e, bI_zo, nI0z, nI1o, nI1z, nI0o, nI0q, nI1q, nm1_lt, nm1_ge, ax_new tX8_addToldPage_0, ax_dup tX8_addToldPage_3, ax_aload_n tX8_addToldPage_4, ax_getR tX8_addToldPage_5, ax_callV0 tX8_addToldPage_8, ax_aload_n tX8_addToldPage_11, ax_aload_n tX8_addToldPage_12, ax_callV0 tX8_addToldPage_13, ax_callI3 rfl rfl tX8_addToldPage_16, ax_astore_nR tX8_addToldPage_19, ax_astore_nN tX8_addToldPage_19, ax_aload_n tX8_addToldPage_20, ax_getR tX8_addToldPage_21, ax_aload_n tX8_addToldPage_24, ax_callV1 tX8_addToldPage_25, ax_pop tX8_addToldPage_28, ax_aload_n tX8_addToldPage_29, ax_getR tX8_addToldPage_30, ax_aload_n tX8_addToldPage_33, ax_callV1 tX8_addToldPage_34, ax_pop tX8_addToldPage_37, ax_aload_n tX8_addToldPage_38, ax_iconst tX8_addToldPage_39, ax_putI tX8_addToldPage_40, ax_vret tX8_addToldPage_43, f_11, f_92, f_190, f_194]
  refine x_page_init (d := d + 6) kx ?_
  generalize hh3 : sR (sR (sI h 3 0 xp (nI (s 31))) 3 1 xp (some (Y 2 p 0))) 3 2 xp (some (Y 4 t 0)) = h3
  have F3 : FRO ow [(3, s 31, 0)] h h3 := by rw [← hh3]; exact (((FRO.rf h).sI (Or.inl (by simp [ox]))).sR (Or.inl (by simp [ox]))).sR (Or.inl (by simp [ox]))
  have m0 := own.sam F3 (r := 0) (i := 0) (k := 0) (And.intro (by omega) (by omega)) (by simp)
  have c03 : hK h3 (Y 0 0 0) = 10 := by rw [m0.1]; exact c0
  have r63 : hR h3 9 6 (Y 0 0 0) = some (Y 0 6 0) := by rw [m0.2.2.2.1]; exact r6
  have L3 : LST E h3 (Y 0 6 0) (Y 1 6 0) (s 31) 3 (fun i => Y 3 i 0) := DL.K (n := s 31) (s' := s) own F3 (by omega) (by simp) (by simp) (by omega) rfl rfl (fun _ _ => rfl) dl.2.1
  have l63 := L3.1
  have kx3 : hK h3 xp = 4 := by rw [(F3.1 xp (by omega)).1]; exact kx
  have gl := gs_le (s 31)
  refine gAx (cut := [(25, [0, 1, 2])]) okX8_addToldPage 40 ?_
  simp only [axC_nil, axC_hit, axC_def, cutAt, lvLive, Option.isSome_none, Option.isSome_some, catS, lvGet, lvIns, lvSet1, lvSet2, gLit_0, gLit_1, lv_args, fv0, fv1, fv2, fv3, isI_s, isL_s, isRf_s, isRf_n, gtI_s, gtL_s, gtV_s, gFilter_nil, gFilter_cons, gL1, gL2, gL3, gL4, gL5, va_rf_s, va_rf_n, hK_sI, hK_sR, hK_sA, hK_sJ, hK_sO, hI_sI, hI_sR, hI_sA, hI_sJ, hI_sO, hR_sI, hR_sR, hR_sA, hR_sJ, hR_sO, hN_sI, hN_sR, hN_sA, hN_sJ, hN_sO, hA_sI, hA_sR, hA_sA, hA_sJ, hA_sO, hJ_sI, hJ_sR, hJ_sA, hJ_sJ, hJ_sO, hO_sI, hO_sR, hO_sA, hO_sJ, hO_sO, up3_eq, up2_eq, List.map_cons, List.map_nil, List.sum_cons, List.sum_nil, List.nil_append, List.cons_append, Option.toList_some, Option.toList_none, true_and, and_true, if_true, if_false, and_self, true_or, or_true, or_false, false_or, false_and, and_false, not_true_eq_false, not_false_eq_true, forall_const, reduceCtorEq, implies_true, List.contains_cons, List.contains_nil, Bool.or_false, Bool.false_or, Bool.or_true, Bool.true_or, Bool.and_true, Bool.true_and, Bool.and_false, Bool.false_and, Bool.not_true, Bool.not_false, BEq.rfl, Bool.false_eq_true, Bool.true_eq_false, eq_self, ↓reduceIte, Nat.reduceAdd, Nat.reduceEqDiff, Nat.reduceBEq, Nat.reduceLT, Nat.reduceLeDiff, Nat.reduceSub, Nat.reduceMul, Nat.reduceBNe, List.append_nil, Nat.zero_le, Nat.zero_add, Nat.zero_ne_one, Nat.one_ne_zero, false_implies, true_implies, not_false_eq_true, ne_eq, upd_e, updL_e, bI_zo, nI0z, nI1o, nI1z, nI0o, nI0q, nI1q, nm1_lt, nm1_ge, ax_new tX8_addToldPage_0, ax_dup tX8_addToldPage_3, ax_aload_n tX8_addToldPage_4, ax_getR tX8_addToldPage_5, ax_callV0 tX8_addToldPage_8, ax_aload_n tX8_addToldPage_11, ax_aload_n tX8_addToldPage_12, ax_callV0 tX8_addToldPage_13, ax_callI3 rfl rfl tX8_addToldPage_16, ax_astore_nR tX8_addToldPage_19, ax_astore_nN tX8_addToldPage_19, ax_aload_n tX8_addToldPage_20, ax_getR tX8_addToldPage_21, ax_aload_n tX8_addToldPage_24, ax_callV1 tX8_addToldPage_25, ax_pop tX8_addToldPage_28, ax_aload_n tX8_addToldPage_29, ax_getR tX8_addToldPage_30, ax_aload_n tX8_addToldPage_33, ax_callV1 tX8_addToldPage_34, ax_pop tX8_addToldPage_37, ax_aload_n tX8_addToldPage_38, ax_iconst tX8_addToldPage_39, ax_putI tX8_addToldPage_40, ax_vret tX8_addToldPage_43, f_11, f_92, f_190, f_194, c03, r63]
  refine gG_wd (c' := gc (s 31) + 1) (n' := gs (s 31) + 370) (by omega) (by omega) ?_
  refine gG_callV (f := mJx4a65c_add_9ea2d) (ci := 0) (okMb_V (gMs_at (r := 194) (by decide)) (by decide)) (gDec okX8_addToldPage tX8_addToldPage_25) (gMem (i := 299) rfl rfl) rfl (by decide) rfl (c1 := gc (s 31)) (n1 := gs (s 31)) (c := 1) (n := 370) (As := [.ref xp]) (rest := []) (d1 := d + 7) (d := d + 8) l63 rfl (by simp) (by omega) ?_
  refine j_addX (d := d) hX rfl (by omega) L3 kx3 (by omega) (fun h4 e4 f4 L4 he4 => ?_)
  have F4 : FRO ow [(0, 6, 0), (1, 6, 0)] h3 h4 := f4.fro (by simp [o06]) (fun q => by simp [o16 q])
  have F34 : FRO ow [(3, s 31, 0), (0, 6, 0), (1, 6, 0)] h h4 := (F3.up (by simp)).t2 (F4.up (by simp))
  have kp4 : hK h4 (Y 2 p 0) = 5 := by rw [(own.knd F34 (r := 2) (i := p) (k := 0) (And.intro (by omega) (by omega))).1]; exact (dp p hp).2.1.1
  have mp := own.sam F34 (r := 2) (i := p) (k := 0) (And.intro (by omega) (by omega)) (by simp)
  have r34 : hR h4 4 3 (Y 2 p 0) = some (Y 2 p 3) := by rw [mp.2.2.2.1]; exact (dp p hp).2.1.2.2.2.1
  have LP4 : LST E h4 (Y 2 p 3) (Y 2 p 1) (pgN s a p) 3 (fun j => Y 3 (pgO s a p j) 0) := (dp p hp).2.2.1.M (own.sam F34 (And.intro (by omega) (by omega)) (by simp)) (fun q => own.sam F34 (v21 (by omega)) (by simp)) (fun j hj => ⟨rfl, by
    have := (nthN_lt (fun g => a 32 g == p) (s 31) j hj).1
    exact (own.knd F34 (r := 3) (i := pgO s a p j) (k := 0) (And.intro this rfl)).1⟩)
  have lp4 := LP4.1
  have kx4 : hK h4 xp = 4 := by rw [(F4.1 xp (by omega)).1]; exact kx3
  have sx4 : SAM h3 h4 xp := F4.2 xp (by omega) (by simp [ox])
  have gl2 := gs_le (pgN s a p)
  refine gAx (cut := [(34, [0])]) okX8_addToldPage 40 ?_
  simp only [axC_nil, axC_hit, axC_def, cutAt, lvLive, Option.isSome_none, Option.isSome_some, catS, lvGet, lvIns, lvSet1, lvSet2, gLit_0, gLit_1, lv_args, fv0, fv1, fv2, fv3, isI_s, isL_s, isRf_s, isRf_n, gtI_s, gtL_s, gtV_s, gFilter_nil, gFilter_cons, gL1, gL2, gL3, gL4, gL5, va_rf_s, va_rf_n, hK_sI, hK_sR, hK_sA, hK_sJ, hK_sO, hI_sI, hI_sR, hI_sA, hI_sJ, hI_sO, hR_sI, hR_sR, hR_sA, hR_sJ, hR_sO, hN_sI, hN_sR, hN_sA, hN_sJ, hN_sO, hA_sI, hA_sR, hA_sA, hA_sJ, hA_sO, hJ_sI, hJ_sR, hJ_sA, hJ_sJ, hJ_sO, hO_sI, hO_sR, hO_sA, hO_sJ, hO_sO, up3_eq, up2_eq, List.map_cons, List.map_nil, List.sum_cons, List.sum_nil, List.nil_append, List.cons_append, Option.toList_some, Option.toList_none, true_and, and_true, if_true, if_false, and_self, true_or, or_true, or_false, false_or, false_and, and_false, not_true_eq_false, not_false_eq_true, forall_const, reduceCtorEq, implies_true, List.contains_cons, List.contains_nil, Bool.or_false, Bool.false_or, Bool.or_true, Bool.true_or, Bool.and_true, Bool.true_and, Bool.and_false, Bool.false_and, Bool.not_true, Bool.not_false, BEq.rfl, Bool.false_eq_true, Bool.true_eq_false, eq_self, ↓reduceIte, Nat.reduceAdd, Nat.reduceEqDiff, Nat.reduceBEq, Nat.reduceLT, Nat.reduceLeDiff, Nat.reduceSub, Nat.reduceMul, Nat.reduceBNe, List.append_nil, Nat.zero_le, Nat.zero_add, Nat.zero_ne_one, Nat.one_ne_zero, false_implies, true_implies, not_false_eq_true, ne_eq, upd_e, updL_e, bI_zo, nI0z, nI1o, nI1z, nI0o, nI0q, nI1q, nm1_lt, nm1_ge, ax_new tX8_addToldPage_0, ax_dup tX8_addToldPage_3, ax_aload_n tX8_addToldPage_4, ax_getR tX8_addToldPage_5, ax_callV0 tX8_addToldPage_8, ax_aload_n tX8_addToldPage_11, ax_aload_n tX8_addToldPage_12, ax_callV0 tX8_addToldPage_13, ax_callI3 rfl rfl tX8_addToldPage_16, ax_astore_nR tX8_addToldPage_19, ax_astore_nN tX8_addToldPage_19, ax_aload_n tX8_addToldPage_20, ax_getR tX8_addToldPage_21, ax_aload_n tX8_addToldPage_24, ax_callV1 tX8_addToldPage_25, ax_pop tX8_addToldPage_28, ax_aload_n tX8_addToldPage_29, ax_getR tX8_addToldPage_30, ax_aload_n tX8_addToldPage_33, ax_callV1 tX8_addToldPage_34, ax_pop tX8_addToldPage_37, ax_aload_n tX8_addToldPage_38, ax_iconst tX8_addToldPage_39, ax_putI tX8_addToldPage_40, ax_vret tX8_addToldPage_43, f_11, f_92, f_190, f_194, kp4, r34]
  refine gG_wd (c' := gc (pgN s a p) + 0) (n' := gs (pgN s a p) + 0) (by omega) (by omega) ?_
  refine gG_callV (f := mJx4a65c_add_9ea2d) (ci := 0) (okMb_V (gMs_at (r := 194) (by decide)) (by decide)) (gDec okX8_addToldPage tX8_addToldPage_34) (gMem (i := 299) rfl rfl) rfl (by decide) rfl (c1 := gc (pgN s a p)) (n1 := gs (pgN s a p)) (c := 0) (n := 0) (As := [.ref xp]) (rest := []) (d1 := d + 7) (d := d + 8) lp4 rfl (by simp) (by omega) ?_
  refine j_addX (d := d) hX rfl (by omega) LP4 kx4 (by omega) (fun h5 e5 f5 L5 he5 => ?_)
  have F5 : FRO ow [(2, p, 3), (2, p, 1)] h4 h5 := f5.fro (by simp [o23]) (fun q => by simp [o21 q])
  have sx5 : SAM h4 h5 xp := F5.2 xp (by omega) (by simp [ox])
  have F45 : FRO ow [(3, s 31, 0), (0, 6, 0), (1, 6, 0), (2, p, 3), (2, p, 1)] h h5 := (F34.up (by simp)).t2 (F5.up (by simp))
  have c05 : hK h5 (Y 0 0 0) = 10 := by rw [(own.knd F45 (r := 0) (i := 0) (k := 0) (And.intro (by omega) (by omega))).1]; exact c0
  have d05 : D0 Y v h5 s a := D0.K own F45 (by simp) ⟨rfl, rfl, rfl⟩ ⟨rfl, rfl, rfl⟩ (fun _ _ => rfl) d0
  refine gAx (cut := []) okX8_addToldPage 40 ?_
  simp only [axC_nil, axC_hit, axC_def, cutAt, lvLive, Option.isSome_none, Option.isSome_some, catS, lvGet, lvIns, lvSet1, lvSet2, gLit_0, gLit_1, lv_args, fv0, fv1, fv2, fv3, isI_s, isL_s, isRf_s, isRf_n, gtI_s, gtL_s, gtV_s, gFilter_nil, gFilter_cons, gL1, gL2, gL3, gL4, gL5, va_rf_s, va_rf_n, hK_sI, hK_sR, hK_sA, hK_sJ, hK_sO, hI_sI, hI_sR, hI_sA, hI_sJ, hI_sO, hR_sI, hR_sR, hR_sA, hR_sJ, hR_sO, hN_sI, hN_sR, hN_sA, hN_sJ, hN_sO, hA_sI, hA_sR, hA_sA, hA_sJ, hA_sO, hJ_sI, hJ_sR, hJ_sA, hJ_sJ, hJ_sO, hO_sI, hO_sR, hO_sA, hO_sJ, hO_sO, up3_eq, up2_eq, List.map_cons, List.map_nil, List.sum_cons, List.sum_nil, List.nil_append, List.cons_append, Option.toList_some, Option.toList_none, true_and, and_true, if_true, if_false, and_self, true_or, or_true, or_false, false_or, false_and, and_false, not_true_eq_false, not_false_eq_true, forall_const, reduceCtorEq, implies_true, List.contains_cons, List.contains_nil, Bool.or_false, Bool.false_or, Bool.or_true, Bool.true_or, Bool.and_true, Bool.true_and, Bool.and_false, Bool.false_and, Bool.not_true, Bool.not_false, BEq.rfl, Bool.false_eq_true, Bool.true_eq_false, eq_self, ↓reduceIte, Nat.reduceAdd, Nat.reduceEqDiff, Nat.reduceBEq, Nat.reduceLT, Nat.reduceLeDiff, Nat.reduceSub, Nat.reduceMul, Nat.reduceBNe, List.append_nil, Nat.zero_le, Nat.zero_add, Nat.zero_ne_one, Nat.one_ne_zero, false_implies, true_implies, not_false_eq_true, ne_eq, upd_e, updL_e, bI_zo, nI0z, nI1o, nI1z, nI0o, nI0q, nI1q, nm1_lt, nm1_ge, ax_new tX8_addToldPage_0, ax_dup tX8_addToldPage_3, ax_aload_n tX8_addToldPage_4, ax_getR tX8_addToldPage_5, ax_callV0 tX8_addToldPage_8, ax_aload_n tX8_addToldPage_11, ax_aload_n tX8_addToldPage_12, ax_callV0 tX8_addToldPage_13, ax_callI3 rfl rfl tX8_addToldPage_16, ax_astore_nR tX8_addToldPage_19, ax_astore_nN tX8_addToldPage_19, ax_aload_n tX8_addToldPage_20, ax_getR tX8_addToldPage_21, ax_aload_n tX8_addToldPage_24, ax_callV1 tX8_addToldPage_25, ax_pop tX8_addToldPage_28, ax_aload_n tX8_addToldPage_29, ax_getR tX8_addToldPage_30, ax_aload_n tX8_addToldPage_33, ax_callV1 tX8_addToldPage_34, ax_pop tX8_addToldPage_37, ax_aload_n tX8_addToldPage_38, ax_iconst tX8_addToldPage_39, ax_putI tX8_addToldPage_40, ax_vret tX8_addToldPage_43, f_11, f_92, f_190, f_194, c05]
  generalize hh6 : sI h5 9 4 (Y 0 0 0) (nI 0) = h6
  have F56 : FRO ow [(0, 0, 0)] h5 h6 := by rw [← hh6]; exact (FRO.rf h5).sI (Or.inl (by simp [o00]))
  have hf : FRO ow [(3, s 31, 0), (0, 6, 0), (1, 6, 0), (2, p, 3), (2, p, 1), (0, 0, 0)] h h6 := (F45.up (by simp)).t2 (F56.up (by simp))
  have sx6 : SAM h5 h6 xp := F56.2 xp (by rw [sx5.1]; omega) (by simp [ox])
  have sxx := sx4.tr (sx5.tr sx6)
  have d06 : D0 Y v h6 (pgS s) a := by
    obtain ⟨c0, i24, i25, i44, rr, rr2, hm, hm1, hm2, hm3⟩ := d05
    rw [← hh6]
    refine ⟨c0, ?_, ?_, ?_, rr, rr2, hm, hm1, ?_, hm3⟩ <;> simp [hI_sI, up3_eq, va_up_eq, i24, i25, hm2]
  have m20 := own.sam hf (r := 2) (i := p) (k := 0) (And.intro (by omega) (by omega)) (by simp)
  have u5 : ∀ y, hK h5 y ≠ 0 → y ≠ Y 0 0 0 → SAM h5 h6 y := fun y hy q => by
    have f : FRM [(9, 4, Y 0 0 0)] [] h5 h6 := by rw [← hh6]; exact (FRM.rf h5).sI (by simp)
    exact (f.fro (ow := fun b => if b = Y 0 0 0 then (0, 0, 1) else (0, 0, 0)) (T := [(0, 0, 1)]) (by simp)).2 y hy (by simp [q])
  have new0 : ∀ y, hK h y = 0 → y ≠ Y 0 0 0 := fun y hy q => by rw [q] at hy; omega
  have k3h : ∀ y, hK h3 y = 0 → hK h y = 0 := fun y hy => by
    rcases Nat.eq_zero_or_pos (hK h y) with q | q
    · exact q
    · rw [(F3.1 y (by omega)).1] at hy; exact hy
  have k4h : ∀ y, hK h4 y = 0 → hK h y = 0 := fun y hy => by
    rcases Nat.eq_zero_or_pos (hK h y) with q | q
    · exact q
    · rw [(F34.1 y (by omega)).1] at hy; exact hy
  have ke4 : hK h4 e4 ≠ 0 := by
    rcases he4 with ⟨q1, q2⟩ | ⟨_, q2⟩
    · rw [q2, (F34.1 _ (own 1 6 0 (And.intro rfl (by omega))).1).1]; exact (own 1 6 0 (And.intro rfl (by omega))).1
    · omega
  have h45 : e4 ≠ e5 := fun q => by
    rcases he5 with ⟨q1, q2⟩ | ⟨q1, _⟩
    · rcases he4 with ⟨w1, w2⟩ | ⟨w1, _⟩
      · exact own.ne (r := 1) (i := 6) (k := 0) (r' := 2) (i' := p) (k' := 1) (And.intro rfl (by omega)) (v21 q1) (by omega) (by rw [← w2, ← q2]; exact q)
      · have := k3h _ w1
        rw [q, q2] at this
        exact (own 2 p 1 (v21 q1)).1 this
    · rw [q] at ke4; exact ke4 q1
  have he4' : s 31 ≠ 0 ∧ e4 = Y 1 6 0 ∨ hK h e4 = 0 ∧ hK h6 e4 ≠ 0 := by
    rcases he4 with q | ⟨q1, q2⟩
    · exact Or.inl q
    · refine Or.inr ⟨k3h _ q1, ?_⟩
      have k5 : hK h5 e4 ≠ 0 := by rw [(F5.1 _ (by omega)).1]; omega
      rw [(F56.1 _ k5).1]; exact k5
  have he5' : pgN s a p ≠ 0 ∧ e5 = Y 2 p 1 ∨ hK h e5 = 0 ∧ hK h6 e5 ≠ 0 := by
    rcases he5 with q | ⟨q1, q2⟩
    · exact Or.inl q
    · exact Or.inr ⟨k4h _ q1, by rw [(F56.1 _ (by omega)).1]; omega⟩
  have x3 : hI h3 3 0 xp = nI (s 31) ∧ hR h3 3 1 xp = some (Y 2 p 0) ∧ hR h3 3 2 xp = some (Y 4 t 0) := by rw [← hh3]; simp [hI_sR, hI_sI, hR_sR, up3_eq]
  have n06 : Y 0 6 0 ≠ Y 0 0 0 := own.ne (And.intro (by omega) (by omega)) (And.intro (by omega) (by omega)) (by omega)
  have n023 : Y 2 p 3 ≠ Y 0 0 0 := own.ne (And.intro (by omega) (by omega)) (And.intro (by omega) (by omega)) (by omega)
  have L6 : LST E h6 (Y 0 6 0) e4 (s 31 + 1) 3 (va_up (fun i => Y 3 i 0) (s 31) xp) := by
    have v06 : hK h4 (Y 0 6 0) ≠ 0 := by have := L4.1; omega
    have s06 : SAM h4 h5 (Y 0 6 0) := F5.2 _ v06 (by simp [o06])
    have k06 : hK h5 (Y 0 6 0) ≠ 0 := by rw [s06.1]; exact v06
    refine L4.M (s06.tr (u5 _ k06 n06)) (fun _ => ?_) (fun i hi => ⟨rfl, ?_⟩)
    · have s4 : SAM h4 h5 e4 := f5.2 e4 ke4 (fun q => ?_) (fun c q => ?_)
      · have k5 : hK h5 e4 ≠ 0 := by rw [s4.1]; exact ke4
        refine s4.tr (u5 _ k5 (fun q => ?_))
        rcases he4 with ⟨w1, w2⟩ | ⟨w1, _⟩
        · exact own.ne (r := 1) (i := 6) (k := 0) (r' := 0) (i' := 0) (k' := 0) (And.intro rfl (by omega)) (And.intro (by omega) (by omega)) (by omega) (by rw [← w2]; exact q)
        · exact new0 _ (k3h _ w1) q
      · rcases he4 with ⟨w1, w2⟩ | ⟨w1, _⟩
        · exact own.ne (r := 1) (i := 6) (k := 0) (r' := 2) (i' := p) (k' := 3) (And.intro rfl (by omega)) (And.intro (by omega) (by omega)) (by omega) (by rw [← w2]; exact q)
        · have := k3h _ w1
          rw [q] at this
          exact (own 2 p 3 (And.intro (by omega) (by omega))).1 this
      · rcases he4 with ⟨w1, w2⟩ | ⟨w1, _⟩
        · exact own.ne (r := 1) (i := 6) (k := 0) (r' := 2) (i' := p) (k' := 1) (And.intro rfl (by omega)) (v21 c) (by omega) (by rw [← w2]; exact q)
        · have := k3h _ w1
          rw [q] at this
          exact (own 2 p 1 (v21 c)).1 this
    · have kk : hK h4 (va_up (fun i => Y 3 i 0) (s 31) xp i) ≠ 0 := by have := (L4.2.2.2.2.2 i hi).2; omega
      have k5 := (F5.1 _ kk).1
      rw [(F56.1 _ (by omega)).1, k5]
  have LP6 : LST E h6 (Y 2 p 3) e5 (pgN s a p + 1) 3 (va_up (fun j => Y 3 (pgO s a p j) 0) (pgN s a p) xp) := by
    have v23 : hK h5 (Y 2 p 3) ≠ 0 := by have := L5.1; omega
    refine L5.M (u5 _ v23 n023) (fun _ => ?_) (fun i hi => ⟨rfl, ?_⟩)
    · rcases he5 with ⟨w1, w2⟩ | ⟨w1, w2⟩
      · refine u5 _ (by rw [w2, (F45.1 _ (own 2 p 1 (v21 w1)).1).1]; exact (own 2 p 1 (v21 w1)).1) (fun q => own.ne (r := 2) (i := p) (k := 1) (r' := 0) (i' := 0) (k' := 0) (v21 w1) (And.intro (by omega) (by omega)) (by omega) (by rw [← w2]; exact q))
      · exact u5 _ (by omega) (new0 _ (k4h _ w1))
    · have := (L5.2.2.2.2.2 i hi).2
      rw [(F56.1 _ (by omega)).1]
  obtain ⟨Y6, ow6, D6, w6, y60, y62⟩ := DS.pgn hd wg hp ht a32 a33 ox (by omega) hf d06 (by rw [sxx.1]; exact kx3) (by rw [sxx.2.2.1]; exact x3.1) (by rw [sxx.2.2.2.1]; exact x3.2.1) (by rw [sxx.2.2.2.1]; exact x3.2.2) m20 L6 LP6 he4' he5' h45
  exact hq h6 Y6 ow6 D6 hf w6 y60 y62
end X8P
