/-! THE DESK: what fits -/
/-- a page's row is its text's -/
def PR (s : Nat → Nat) (a : Nat → Nat → Nat) : Prop := ∀ g, g < s 31 → a 34 (a 37 (a 33 g)) = a 34 g ∧ ∀ k, k < a 34 g → a 35 (12 * a 37 (a 33 g) + k) = a 35 (12 * g + k)
def grM (s : Nat → Nat) (a : Nat → Nat → Nat) (rl : List (Nat × List (Nat × Nat))) (p : Nat) : Nat := gmk rl (kv s a p) rl.length
abbrev txW (a : Nat → Nat → Nat) (t : Nat) : Nat → Nat := fun k => if k < 12 then a 35 (12 * a 37 t + k) else 0
section PURE
variable {s : Nat → Nat} {a : Nat → Nat → Nat} {rl : List (Nat × List (Nat × Nat))}
theorem kv_kn (p : Nat) : knP (s 24) (pgN s a p) (a 29 p) (a 28 p) (a 30 p) = kv s a p := rfl
theorem blk_T (wp : WP s a) {g : Nat} (hg : g < s 31) (k : Nat) : isBlkT (grM s a rl (a 32 g)) (a 39 (a 33 g)) (spS a (a 33 g)) k = isBlk s a rl g k := by
  have h4 := (wp.2.2.2.2.1 (a 33 g) (wp.2.2.2.1 g hg).2.1).2.1
  refine anyN_cg (fun i hi => ?_)
  unfold blkT blk spS
  simp only [show ¬ 4 ≤ i by omega, Nat.reduceLeDiff, Nat.reduceLT, Nat.reduceEqDiff, Nat.one_ne_zero, Nat.zero_ne_one, Nat.reduceSub, Nat.reduceAdd, eq_self, true_or, or_true, or_false, false_or, true_and, and_true, false_and, and_false, and_self, or_self, forall_const, not_true_eq_false, not_false_eq_true, false_implies, implies_true, true_implies, ↓reduceIte, if_true, if_false, Nat.not_lt_zero, Nat.zero_le, Nat.le_refl, Nat.lt_irrefl, ne_eq, reduceCtorEq, Bool.false_eq_true]
  unfold grM gAny
  rw [gmk_any]
theorem shw_T (wp : WP s a) (pr : PR s a) {g : Nat} (hg : g < s 31) (w : Nat) : anyN (shwT (grM s a rl (a 32 g)) (a 39 (a 33 g)) (spS a (a 33 g)) (txW a (a 33 g)) w) (a 34 (a 37 (a 33 g))) = anyN (sIn s a rl w g) (a 34 g) := by
  obtain ⟨p1, p2⟩ := pr g hg
  have h12 := (wp.2.2.2.1 g hg).2.2.2.1
  rw [p1]
  refine anyN_cg (fun k hk => ?_)
  unfold shwT sIn txW
  rw [if_pos (by omega), p2 k hk, blk_T wp hg]
theorem stnd_T (wp : WP s a) (pr : PR s a) (w p : Nat) : anyN (fun i => anyN (shwT (grM s a rl p) (a 39 (a 33 (pgO s a p i))) (spS a (a 33 (pgO s a p i))) (txW a (a 33 (pgO s a p i))) w) (a 34 (a 37 (a 33 (pgO s a p i))))) (pgN s a p) = stnd s a rl w p := by
  unfold stnd sOn
  rw [← anyN_nth (fun g => a 32 g == p) (fun g => anyN (sIn s a rl w g) (a 34 g)) (s 31)]
  refine anyN_cg (fun i hi => ?_)
  have q := nthN_lt (fun g => a 32 g == p) (s 31) i hi
  have e : a 32 (pgO s a p i) = p := by have := q.2; simpa [pgO] using this
  have := shw_T (rl := rl) wp pr (g := pgO s a p i) q.1 w
  rw [e] at this
  exact this
end PURE
section X8E
variable {B : gB} {h : gHp} {d E v : Nat} {Y : gYm} {ow : Nat → gTag} {rl : List (Nat × List (Nat × Nat))} {s : Nat → Nat} {a : Nat → Nat → Nat} {Q : Option Value → gHp → Prop}
abbrev scT (v : Nat) : List gTag := [(8, v, 5)]
set_option maxRecDepth 100000 in
set_option maxHeartbeats 1600000 in
theorem DS.scr {h' : gHp} (hd : DS E Y ow v rl h s a) (wp : WP s a) (hf : FRO ow (scT v) h h') : DS E Y ow v rl h' s a := by
  obtain ⟨own, d0, df, dt, db, dl, dp, dg, dx, da, dh, du, dr⟩ := id hd
  obtain ⟨c0, i24, i25, i44, ⟨r1, r3, r5, r6, r7, r8, r9⟩, ⟨r11, r12, r13⟩, hm, hm1, hm2, hm3⟩ := id d0
  have l5 := dl.1.1
  have l6 := dl.2.1.1
  have l7 := dl.2.2.1.1
  have l8 := dl.2.2.2.1.1
  have l9 := dl.2.2.2.2.1
  have wpb := wp.1
  have own2 := own.F hf
  have dr2 : DR Y v rl h' := DR.K own hf (by intro q k hk; simp; omega) rfl dr
  exact ⟨own2, (D0.K own hf (by simp) ⟨rfl, rfl, rfl⟩ ⟨rfl, rfl, rfl⟩ (fun _ _ => rfl) d0), (DF.K own hf (by simp) rfl rfl (fun _ => rfl) df), (DT.K own hf (by simp) rfl (Nat.le_refl _) (fun _ => rfl) dt), (DB.K own hf rfl db), ⟨DL1.K (n := s 27) own hf (by omega) (by simp) (by simp) (fun i hi => (And.intro (by omega) (by omega))) (fun hn => (And.intro (by omega) (by omega))) rfl rfl (fun _ _ => rfl) dl.1, DL1.K (n := s 31) own hf (by omega) (by simp) (by simp) (fun i hi => (And.intro (by omega) (by omega))) (fun hn => (And.intro (by omega) (by omega))) rfl rfl (fun _ _ => rfl) dl.2.1, DL1.K (n := s 36) own hf (by omega) (by simp) (by simp) (fun i hi => (And.intro (by omega) (by omega))) (fun hn => (And.intro (by omega) (by omega))) rfl rfl (fun _ _ => rfl) dl.2.2.1, DL1.K (n := s 46) own hf (by omega) (by simp) (by simp) (fun i hi => (And.intro (by omega) (by omega))) (fun hn => (And.intro (by omega) (by omega))) rfl rfl (fun _ _ => rfl) dl.2.2.2.1, DL1.K (n := s 57) own hf (by omega) (by simp) (by simp) (fun i hi => (And.intro (by omega) (by omega))) (fun hn => (And.intro (by omega) (by omega))) rfl rfl (fun _ _ => rfl) dl.2.2.2.2⟩, (fun p hp => DP.K own hf hp (by simp) ⟨fun _ => rfl, fun _ _ => rfl⟩ ⟨rfl, rfl, rfl, rfl, rfl⟩ (dp p hp)), (DG.K own wp hf (by simp) ⟨fun _ _ => rfl, fun _ _ => rfl, fun _ _ => rfl⟩ rfl (fun _ _ => ⟨rfl, rfl⟩) dg), (fun t ht => DX.K own hf ht (by simp) (fun _ => rfl) ⟨rfl, rfl, rfl, rfl, fun _ _ => rfl, fun _ _ => rfl, fun _ _ => rfl, fun _ _ => rfl, fun _ _ => rfl⟩ (dx t ht)), (fun b hb => DA.K own hf hb (by simp) (fun _ => rfl) ⟨Nat.le_refl _, rfl⟩ ⟨rfl, rfl, rfl, rfl, rfl, rfl, rfl, fun _ _ => rfl, fun _ _ => rfl⟩ (da b hb)), (fun i hi => DH.K own hf hi (by simp) (fun _ => rfl) ⟨rfl, rfl, rfl, rfl, fun _ _ => rfl⟩ (dh i hi)), (DU.K own hf (by simp) rfl rfl (fun _ => rfl) du), (dr2)⟩
theorem DS.frs {h' : gHp} (hd : DS E Y ow v rl h s a) (wp : WP s a) (hf : FRS ow (scT v) h h') : DS E Y ow v rl h' s a := by
  obtain ⟨h1, f1, f2⟩ := hf.spl
  exact (hd.scr wp f1).mk f2
set_option maxRecDepth 100000 in
set_option maxHeartbeats 800000 in
theorem x_liesIn_out (hd : DS E Y ow v rl h s a) (wp : WP s a) {o i : Nat} (hi : i ≤ 20) (hq : Q (some (.int (nI 0))) h) : gG B mX8_liesIn (d + 2) 0 0 5 [(0, .ref (Y 0 0 0)), (2, .int (nI o)), (3, .int (-nI 1)), (4, .int (nI i))] [] h Q := by
  obtain ⟨own, d0, df, dt, db, dl, dp, dg, dx, da, dh, du, dr⟩ := id hd
  obtain ⟨c0, i24, i25, i44, ⟨r1, r3, r5, r6, r7, r8, r9⟩, ⟨r11, r12, r13⟩, hm, hm1, hm2, hm3⟩ := id d0
  have l5 := dl.1.1
  have l6 := dl.2.1.1
  have l7 := dl.2.2.1.1
  have l8 := dl.2.2.2.1.1
  have l9 := dl.2.2.2.2.1
  have wpb := wp.1
  refine gAx (cut := []) okX8_liesIn 40 ?_
  simp only [axC_nil, axC_hit, axC_def, cutAt, lvLive, Option.isSome_none, Option.isSome_some, catS, lvGet, lvIns, lvSet1, lvSet2, gLit_0, gLit_1, lv_args, fv0, fv1, fv2, fv3, isI_s, isL_s, isRf_s, isRf_n, gtI_s, gtL_s, gtV_s, gFilter_nil, gFilter_cons, gL1, gL2, gL3, gL4, gL5, va_rf_s, va_rf_n, hK_sI, hK_sR, hK_sA, hK_sJ, hK_sO, hI_sI, hI_sR, hI_sA, hI_sJ, hI_sO, hR_sI, hR_sR, hR_sA, hR_sJ, hR_sO, hN_sI, hN_sR, hN_sA, hN_sJ, hN_sO, hA_sI, hA_sR, hA_sA, hA_sJ, hA_sO, hJ_sI, hJ_sR, hJ_sA, hJ_sJ, hJ_sO, hO_sI, hO_sR, hO_sA, hO_sJ, hO_sO, up3_eq, up2_eq, List.map_cons, List.map_nil, List.sum_cons, List.sum_nil, List.nil_append, List.cons_append, Option.toList_some, Option.toList_none, true_and, and_true, if_true, if_false, and_self, true_or, or_true, or_false, false_or, false_and, and_false, not_true_eq_false, not_false_eq_true, forall_const, reduceCtorEq, implies_true, List.contains_cons, List.contains_nil, Bool.or_false, Bool.false_or, Bool.or_true, Bool.true_or, Bool.and_true, Bool.true_and, Bool.and_false, Bool.false_and, Bool.not_true, Bool.not_false, BEq.rfl, Bool.false_eq_true, Bool.true_eq_false, eq_self, ↓reduceIte, Nat.reduceAdd, Nat.reduceEqDiff, Nat.reduceBEq, Nat.reduceLT, Nat.reduceLeDiff, Nat.reduceSub, Nat.reduceMul, Nat.reduceBNe, List.append_nil, Nat.zero_le, Nat.zero_add, Nat.zero_ne_one, Nat.one_ne_zero, false_implies, true_implies, not_false_eq_true, ne_eq, upd_e, updL_e, bI_zo, nI0z, nI1o, nI1z, nI0o, nI0q, nI1q, nm1_lt, nm1_ge, ax_iload_n tX8_liesIn_0, ax_istore_n tX8_liesIn_1, ax_iconst tX8_liesIn_2, ax_istore tX8_liesIn_3, ax_iload tX8_liesIn_5, ax_bipush tX8_liesIn_7, ax_icmp_ge tX8_liesIn_9, ax_aload_n tX8_liesIn_12, ax_iload_n tX8_liesIn_13, ax_callV1 tX8_liesIn_14, ax_if_eq tX8_liesIn_17, ax_iload_n tX8_liesIn_20, ax_iload_n tX8_liesIn_21, ax_icmp_ne tX8_liesIn_22, ax_iconst tX8_liesIn_25, ax_iretZ tX8_liesIn_26, ax_aload_n tX8_liesIn_27, ax_getR tX8_liesIn_28, ax_iload_n tX8_liesIn_31, ax_iaload tX8_liesIn_32, ax_istore_n tX8_liesIn_33, ax_iinc tX8_liesIn_34, ax_goto tX8_liesIn_37, ax_iconst tX8_liesIn_40, ax_iretZ tX8_liesIn_41, f_83, c0]
  try simp (disch := omega) only [z0, o1, nI_add, pk_mul, nI_ltI, nI_leI, nI_eq, nI_clamp, vpn, pk_sub, Nat.add_sub_cancel, bI_0, bI_1, eq_self, true_or, or_true, or_false, false_or, true_and, and_true, false_and, and_false, and_self, or_self, forall_const, not_true_eq_false, not_false_eq_true, false_implies, implies_true, true_implies, ↓reduceIte, if_true, if_false, Nat.not_lt_zero, Nat.zero_le, Nat.le_refl, Nat.lt_irrefl, ne_eq, reduceCtorEq, Bool.false_eq_true]
  refine ⟨fun _ => hq, fun _ => ?_⟩
  refine x_isFolder hd wp _ (fun j e hj => absurd e.symm (nI_neg1 (by omega))) (fun _ => ?_)
  refine gAx (cut := []) okX8_liesIn 40 ?_
  simp only [axC_nil, axC_hit, axC_def, cutAt, lvLive, Option.isSome_none, Option.isSome_some, catS, lvGet, lvIns, lvSet1, lvSet2, gLit_0, gLit_1, lv_args, fv0, fv1, fv2, fv3, isI_s, isL_s, isRf_s, isRf_n, gtI_s, gtL_s, gtV_s, gFilter_nil, gFilter_cons, gL1, gL2, gL3, gL4, gL5, va_rf_s, va_rf_n, hK_sI, hK_sR, hK_sA, hK_sJ, hK_sO, hI_sI, hI_sR, hI_sA, hI_sJ, hI_sO, hR_sI, hR_sR, hR_sA, hR_sJ, hR_sO, hN_sI, hN_sR, hN_sA, hN_sJ, hN_sO, hA_sI, hA_sR, hA_sA, hA_sJ, hA_sO, hJ_sI, hJ_sR, hJ_sA, hJ_sJ, hJ_sO, hO_sI, hO_sR, hO_sA, hO_sJ, hO_sO, up3_eq, up2_eq, List.map_cons, List.map_nil, List.sum_cons, List.sum_nil, List.nil_append, List.cons_append, Option.toList_some, Option.toList_none, true_and, and_true, if_true, if_false, and_self, true_or, or_true, or_false, false_or, false_and, and_false, not_true_eq_false, not_false_eq_true, forall_const, reduceCtorEq, implies_true, List.contains_cons, List.contains_nil, Bool.or_false, Bool.false_or, Bool.or_true, Bool.true_or, Bool.and_true, Bool.true_and, Bool.and_false, Bool.false_and, Bool.not_true, Bool.not_false, BEq.rfl, Bool.false_eq_true, Bool.true_eq_false, eq_self, ↓reduceIte, Nat.reduceAdd, Nat.reduceEqDiff, Nat.reduceBEq, Nat.reduceLT, Nat.reduceLeDiff, Nat.reduceSub, Nat.reduceMul, Nat.reduceBNe, List.append_nil, Nat.zero_le, Nat.zero_add, Nat.zero_ne_one, Nat.one_ne_zero, false_implies, true_implies, not_false_eq_true, ne_eq, upd_e, updL_e, bI_zo, nI0z, nI1o, nI1z, nI0o, nI0q, nI1q, nm1_lt, nm1_ge, ax_iload_n tX8_liesIn_0, ax_istore_n tX8_liesIn_1, ax_iconst tX8_liesIn_2, ax_istore tX8_liesIn_3, ax_iload tX8_liesIn_5, ax_bipush tX8_liesIn_7, ax_icmp_ge tX8_liesIn_9, ax_aload_n tX8_liesIn_12, ax_iload_n tX8_liesIn_13, ax_callV1 tX8_liesIn_14, ax_if_eq tX8_liesIn_17, ax_iload_n tX8_liesIn_20, ax_iload_n tX8_liesIn_21, ax_icmp_ne tX8_liesIn_22, ax_iconst tX8_liesIn_25, ax_iretZ tX8_liesIn_26, ax_aload_n tX8_liesIn_27, ax_getR tX8_liesIn_28, ax_iload_n tX8_liesIn_31, ax_iaload tX8_liesIn_32, ax_istore_n tX8_liesIn_33, ax_iinc tX8_liesIn_34, ax_goto tX8_liesIn_37, ax_iconst tX8_liesIn_40, ax_iretZ tX8_liesIn_41, f_83]
  exact hq
set_option maxRecDepth 100000 in
set_option maxHeartbeats 800000 in
theorem x_liesIn_loop (hd : DS E Y ow v rl h s a) (wp : WP s a) {o : Nat} (ho : o < 2 ^ 31) : ∀ n g i, g ≤ n → g < s 25 → g + i < 20 → Q (some (.int (bI (rUnder a o n g)))) h → gG B mX8_liesIn (d + 2) 0 0 5 [(0, .ref (Y 0 0 0)), (2, .int (nI o)), (3, .int (nI g)), (4, .int (nI i))] [] h Q := by
  obtain ⟨own, d0, df, dt, db, dl, dp, dg, dx, da, dh, du, dr⟩ := id hd
  obtain ⟨c0, i24, i25, i44, ⟨r1, r3, r5, r6, r7, r8, r9⟩, ⟨r11, r12, r13⟩, hm, hm1, hm2, hm3⟩ := id d0
  have l5 := dl.1.1
  have l6 := dl.2.1.1
  have l7 := dl.2.2.1.1
  have l8 := dl.2.2.2.1.1
  have l9 := dl.2.2.2.2.1
  have wpb := wp.1
  obtain ⟨k1, n1, z1, f1⟩ := id df
  have step : ∀ g i, g < s 25 → g + i < 20 → (g = o → Q (some (.int (nI 1))) h) → (¬ g = o → 0 < g → gG B mX8_liesIn (d + 2) 0 0 5 [(0, .ref (Y 0 0 0)), (2, .int (nI o)), (3, .int (nI (a 26 g))), (4, .int (nI (i + 1)))] [] h Q) → (¬ g = o → g = 0 → Q (some (.int (nI 0))) h) → gG B mX8_liesIn (d + 2) 0 0 5 [(0, .ref (Y 0 0 0)), (2, .int (nI o)), (3, .int (nI g)), (4, .int (nI i))] [] h Q := by
    intro g i hg hgi q1 q2 q3
    refine gAx (cut := []) okX8_liesIn 40 ?_
    simp only [axC_nil, axC_hit, axC_def, cutAt, lvLive, Option.isSome_none, Option.isSome_some, catS, lvGet, lvIns, lvSet1, lvSet2, gLit_0, gLit_1, lv_args, fv0, fv1, fv2, fv3, isI_s, isL_s, isRf_s, isRf_n, gtI_s, gtL_s, gtV_s, gFilter_nil, gFilter_cons, gL1, gL2, gL3, gL4, gL5, va_rf_s, va_rf_n, hK_sI, hK_sR, hK_sA, hK_sJ, hK_sO, hI_sI, hI_sR, hI_sA, hI_sJ, hI_sO, hR_sI, hR_sR, hR_sA, hR_sJ, hR_sO, hN_sI, hN_sR, hN_sA, hN_sJ, hN_sO, hA_sI, hA_sR, hA_sA, hA_sJ, hA_sO, hJ_sI, hJ_sR, hJ_sA, hJ_sJ, hJ_sO, hO_sI, hO_sR, hO_sA, hO_sJ, hO_sO, up3_eq, up2_eq, List.map_cons, List.map_nil, List.sum_cons, List.sum_nil, List.nil_append, List.cons_append, Option.toList_some, Option.toList_none, true_and, and_true, if_true, if_false, and_self, true_or, or_true, or_false, false_or, false_and, and_false, not_true_eq_false, not_false_eq_true, forall_const, reduceCtorEq, implies_true, List.contains_cons, List.contains_nil, Bool.or_false, Bool.false_or, Bool.or_true, Bool.true_or, Bool.and_true, Bool.true_and, Bool.and_false, Bool.false_and, Bool.not_true, Bool.not_false, BEq.rfl, Bool.false_eq_true, Bool.true_eq_false, eq_self, ↓reduceIte, Nat.reduceAdd, Nat.reduceEqDiff, Nat.reduceBEq, Nat.reduceLT, Nat.reduceLeDiff, Nat.reduceSub, Nat.reduceMul, Nat.reduceBNe, List.append_nil, Nat.zero_le, Nat.zero_add, Nat.zero_ne_one, Nat.one_ne_zero, false_implies, true_implies, not_false_eq_true, ne_eq, upd_e, updL_e, bI_zo, nI0z, nI1o, nI1z, nI0o, nI0q, nI1q, nm1_lt, nm1_ge, ax_iload_n tX8_liesIn_0, ax_istore_n tX8_liesIn_1, ax_iconst tX8_liesIn_2, ax_istore tX8_liesIn_3, ax_iload tX8_liesIn_5, ax_bipush tX8_liesIn_7, ax_icmp_ge tX8_liesIn_9, ax_aload_n tX8_liesIn_12, ax_iload_n tX8_liesIn_13, ax_callV1 tX8_liesIn_14, ax_if_eq tX8_liesIn_17, ax_iload_n tX8_liesIn_20, ax_iload_n tX8_liesIn_21, ax_icmp_ne tX8_liesIn_22, ax_iconst tX8_liesIn_25, ax_iretZ tX8_liesIn_26, ax_aload_n tX8_liesIn_27, ax_getR tX8_liesIn_28, ax_iload_n tX8_liesIn_31, ax_iaload tX8_liesIn_32, ax_istore_n tX8_liesIn_33, ax_iinc tX8_liesIn_34, ax_goto tX8_liesIn_37, ax_iconst tX8_liesIn_40, ax_iretZ tX8_liesIn_41, f_83, c0]
    try simp (disch := omega) only [z0, o1, nI_add, pk_mul, nI_ltI, nI_leI, nI_eq, nI_clamp, vpn, pk_sub, Nat.add_sub_cancel, bI_0, bI_1, eq_self, true_or, or_true, or_false, false_or, true_and, and_true, false_and, and_false, and_self, or_self, forall_const, not_true_eq_false, not_false_eq_true, false_implies, implies_true, true_implies, ↓reduceIte, if_true, if_false, Nat.not_lt_zero, Nat.zero_le, Nat.le_refl, Nat.lt_irrefl, ne_eq, reduceCtorEq, Bool.false_eq_true]
    refine ⟨fun c => absurd c (by omega), fun _ => ?_⟩
    refine x_isFolder hd wp _ (fun j e hj => ?_) (fun c => absurd rfl (c g hg))
    refine gAx (cut := [(5, [0, 2, 3, 4])]) okX8_liesIn 40 ?_
    simp only [axC_nil, axC_hit, axC_def, cutAt, lvLive, Option.isSome_none, Option.isSome_some, catS, lvGet, lvIns, lvSet1, lvSet2, gLit_0, gLit_1, lv_args, fv0, fv1, fv2, fv3, isI_s, isL_s, isRf_s, isRf_n, gtI_s, gtL_s, gtV_s, gFilter_nil, gFilter_cons, gL1, gL2, gL3, gL4, gL5, va_rf_s, va_rf_n, hK_sI, hK_sR, hK_sA, hK_sJ, hK_sO, hI_sI, hI_sR, hI_sA, hI_sJ, hI_sO, hR_sI, hR_sR, hR_sA, hR_sJ, hR_sO, hN_sI, hN_sR, hN_sA, hN_sJ, hN_sO, hA_sI, hA_sR, hA_sA, hA_sJ, hA_sO, hJ_sI, hJ_sR, hJ_sA, hJ_sJ, hJ_sO, hO_sI, hO_sR, hO_sA, hO_sJ, hO_sO, up3_eq, up2_eq, List.map_cons, List.map_nil, List.sum_cons, List.sum_nil, List.nil_append, List.cons_append, Option.toList_some, Option.toList_none, true_and, and_true, if_true, if_false, and_self, true_or, or_true, or_false, false_or, false_and, and_false, not_true_eq_false, not_false_eq_true, forall_const, reduceCtorEq, implies_true, List.contains_cons, List.contains_nil, Bool.or_false, Bool.false_or, Bool.or_true, Bool.true_or, Bool.and_true, Bool.true_and, Bool.and_false, Bool.false_and, Bool.not_true, Bool.not_false, BEq.rfl, Bool.false_eq_true, Bool.true_eq_false, eq_self, ↓reduceIte, Nat.reduceAdd, Nat.reduceEqDiff, Nat.reduceBEq, Nat.reduceLT, Nat.reduceLeDiff, Nat.reduceSub, Nat.reduceMul, Nat.reduceBNe, List.append_nil, Nat.zero_le, Nat.zero_add, Nat.zero_ne_one, Nat.one_ne_zero, false_implies, true_implies, not_false_eq_true, ne_eq, upd_e, updL_e, bI_zo, nI0z, nI1o, nI1z, nI0o, nI0q, nI1q, nm1_lt, nm1_ge, ax_iload_n tX8_liesIn_0, ax_istore_n tX8_liesIn_1, ax_iconst tX8_liesIn_2, ax_istore tX8_liesIn_3, ax_iload tX8_liesIn_5, ax_bipush tX8_liesIn_7, ax_icmp_ge tX8_liesIn_9, ax_aload_n tX8_liesIn_12, ax_iload_n tX8_liesIn_13, ax_callV1 tX8_liesIn_14, ax_if_eq tX8_liesIn_17, ax_iload_n tX8_liesIn_20, ax_iload_n tX8_liesIn_21, ax_icmp_ne tX8_liesIn_22, ax_iconst tX8_liesIn_25, ax_iretZ tX8_liesIn_26, ax_aload_n tX8_liesIn_27, ax_getR tX8_liesIn_28, ax_iload_n tX8_liesIn_31, ax_iaload tX8_liesIn_32, ax_istore_n tX8_liesIn_33, ax_iinc tX8_liesIn_34, ax_goto tX8_liesIn_37, ax_iconst tX8_liesIn_40, ax_iretZ tX8_liesIn_41, f_83, c0, r1, k1, n1]
    try simp (disch := omega) only [z0, o1, nI_add, pk_mul, nI_ltI, nI_leI, nI_eq, nI_clamp, vpn, pk_sub, Nat.add_sub_cancel, bI_0, bI_1, eq_self, true_or, or_true, or_false, false_or, true_and, and_true, false_and, and_false, and_self, or_self, forall_const, not_true_eq_false, not_false_eq_true, false_implies, implies_true, true_implies, ↓reduceIte, if_true, if_false, Nat.not_lt_zero, Nat.zero_le, Nat.le_refl, Nat.lt_irrefl, ne_eq, reduceCtorEq, Bool.false_eq_true]
    have fin : ¬ g = o → gG B mX8_liesIn (d + 2) 0 0 5 [(0, .ref (Y 0 0 0)), (2, .int (nI o)), (3, .int (hA h 12 (Y 0 1 0) g)), (4, .int (nI (i + 1)))] [] h Q := fun c => by
      by_cases g0 : g = 0
      · rw [g0, z1]
        exact x_liesIn_out hd wp (by omega) (q3 c g0)
      · rw [f1 g (by omega) hg]
        exact q2 c (by omega)
    first
      | exact ⟨fun c => ⟨by omega, fin c⟩, fun c => q1 c⟩
      | exact ⟨fun c => q1 c, fun c => ⟨by omega, fin c⟩⟩
  intro n
  induction n with
  | zero =>
    intro g i h1 h2 h3 hq
    obtain rfl : g = 0 := by omega
    unfold rUnder at hq
    refine step 0 i h2 h3 (fun e => ?_) (fun _ c => absurd c (by omega)) (fun c _ => ?_)
    · rw [show ((0 : Nat) == o) = true by simpa using e] at hq; exact hq
    · rw [beq_false_of_ne c] at hq; exact hq
  | succ n ih =>
    intro g i h1 h2 h3 hq
    unfold rUnder at hq
    refine step g i h2 h3 (fun e => ?_) (fun c c0 => ?_) (fun c e => ?_)
    · rw [if_neg (by omega), show (g == o) = true by simpa using e] at hq; exact hq
    · rw [if_pos ⟨c0, c⟩] at hq
      have := wp.2.1 g c0 h2
      exact ih (a 26 g) (i + 1) (by omega) (by omega) (by omega) hq
    · rw [if_neg (by omega), beq_false_of_ne c] at hq; exact hq
set_option maxRecDepth 100000 in
set_option maxHeartbeats 800000 in
theorem x_liesIn (hd : DS E Y ow v rl h s a) (wp : WP s a) {g o : Nat} (ho : o < 2 ^ 31) (hg : g < s 25) (hq : Q (some (.int (bI (rUnder a o 20 g)))) h) : gFn B mX8_liesIn (d + 2) 0 0 [.ref (Y 0 0 0), .int (nI g), .int (nI o)] h Q := by
  have b := wp.1
  have Lp := x_liesIn_loop (B := B) (d := d) hd wp ho 20 g 0 (by omega) hg (by omega) hq
  refine gStartX (cut := [(5, [0, 2, 3, 4])]) pnX8_liesIn okX8_liesIn (Nat.le_of_ble_eq_true rfl) 40 ?_
  simp only [axC_nil, axC_hit, axC_def, cutAt, lvLive, Option.isSome_none, Option.isSome_some, catS, lvGet, lvIns, lvSet1, lvSet2, gLit_0, gLit_1, lv_args, fv0, fv1, fv2, fv3, isI_s, isL_s, isRf_s, isRf_n, gtI_s, gtL_s, gtV_s, gFilter_nil, gFilter_cons, gL1, gL2, gL3, gL4, gL5, va_rf_s, va_rf_n, hK_sI, hK_sR, hK_sA, hK_sJ, hK_sO, hI_sI, hI_sR, hI_sA, hI_sJ, hI_sO, hR_sI, hR_sR, hR_sA, hR_sJ, hR_sO, hN_sI, hN_sR, hN_sA, hN_sJ, hN_sO, hA_sI, hA_sR, hA_sA, hA_sJ, hA_sO, hJ_sI, hJ_sR, hJ_sA, hJ_sJ, hJ_sO, hO_sI, hO_sR, hO_sA, hO_sJ, hO_sO, up3_eq, up2_eq, List.map_cons, List.map_nil, List.sum_cons, List.sum_nil, List.nil_append, List.cons_append, Option.toList_some, Option.toList_none, true_and, and_true, if_true, if_false, and_self, true_or, or_true, or_false, false_or, false_and, and_false, not_true_eq_false, not_false_eq_true, forall_const, reduceCtorEq, implies_true, List.contains_cons, List.contains_nil, Bool.or_false, Bool.false_or, Bool.or_true, Bool.true_or, Bool.and_true, Bool.true_and, Bool.and_false, Bool.false_and, Bool.not_true, Bool.not_false, BEq.rfl, Bool.false_eq_true, Bool.true_eq_false, eq_self, ↓reduceIte, Nat.reduceAdd, Nat.reduceEqDiff, Nat.reduceBEq, Nat.reduceLT, Nat.reduceLeDiff, Nat.reduceSub, Nat.reduceMul, Nat.reduceBNe, List.append_nil, Nat.zero_le, Nat.zero_add, Nat.zero_ne_one, Nat.one_ne_zero, false_implies, true_implies, not_false_eq_true, ne_eq, upd_e, updL_e, bI_zo, nI0z, nI1o, nI1z, nI0o, nI0q, nI1q, nm1_lt, nm1_ge, ax_iload_n tX8_liesIn_0, ax_istore_n tX8_liesIn_1, ax_iconst tX8_liesIn_2, ax_istore tX8_liesIn_3, ax_iload tX8_liesIn_5, ax_bipush tX8_liesIn_7, ax_icmp_ge tX8_liesIn_9, ax_aload_n tX8_liesIn_12, ax_iload_n tX8_liesIn_13, ax_callV1 tX8_liesIn_14, ax_if_eq tX8_liesIn_17, ax_iload_n tX8_liesIn_20, ax_iload_n tX8_liesIn_21, ax_icmp_ne tX8_liesIn_22, ax_iconst tX8_liesIn_25, ax_iretZ tX8_liesIn_26, ax_aload_n tX8_liesIn_27, ax_getR tX8_liesIn_28, ax_iload_n tX8_liesIn_31, ax_iaload tX8_liesIn_32, ax_istore_n tX8_liesIn_33, ax_iinc tX8_liesIn_34, ax_goto tX8_liesIn_37, ax_iconst tX8_liesIn_40, ax_iretZ tX8_liesIn_41, f_83]
  exact Lp
/-- the rules in force, as the class asks them -/
theorem x_grounds (hd : DS E Y ow v rl h s a) (wp : WP s a) (hg : ∀ l, l ∈ rl → l.1 ≤ 9 ∧ GC 16 l.2) {p : Nat} (hp : p < s 27) (hq : ∀ h', FRO ow [(8, v, 5)] h h' → DS E Y ow v rl h' s a → Q (some (.int (nI (grM s a rl p)))) h') : gFn B mX5_groundsHolding (d + 4) 0 0 [.ref (Y 8 v 0), .ref (Y 2 p 0), .int (nI (s 24))] h Q := by
  obtain ⟨own, d0, df, dt, db, dl, dp, dg, dx, da, dh, du, dr⟩ := id hd
  have w := wp.2.2.1 p hp
  have o5 := (own 8 v 5 (And.intro dr.1 (by omega))).2
  refine x_groundsHolding (d := d) dr.2.1 (own.rud dr.1) (dp p hp).2 w.2.1 (by have := wp.1; omega) hg (fun F => ?_)
  rw [kv_kn]
  have hf : FRO ow [(8, v, 5)] h (sA h 12 (Y 8 v 5) F) := (FRO.rf h).sA (Or.inl (by simp [o5]))
  exact hq _ hf (hd.scr wp (hf.up (by simp)))
theorem grM_lt (hg : ∀ l, l ∈ rl → l.1 ≤ 9 ∧ GC 16 l.2) (p : Nat) : grM s a rl p < 1024 := gmk_lt (fun l hl => (hg l hl).1) _ (Nat.le_refl _)
end X8E
