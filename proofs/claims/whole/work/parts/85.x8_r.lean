/-! THE DESK: paper -/
section X8R
variable {B : gB} {h h' : gHp} {d E v mi : Nat} {Y : gYm} {ow : Nat → gTag} {rl : List (Nat × List (Nat × Nat))} {s : Nat → Nat} {a : Nat → Nat → Nat} {Q : Option Value → gHp → Prop}
set_option maxRecDepth 100000 in
set_option maxHeartbeats 1600000 in
theorem x_paper_init {x nb fo dy : Nat} (hX : gXt B E mi) (kx : hK h x = 5) (hq : ∀ l h', hK h l = 0 → l ≠ x → (∀ (ow : Nat → gTag) T, ow x ∈ T → FRO ow T h h') → (hK h' x = 5 ∧ hI h' 4 0 x = nI nb ∧ hI h' 4 1 x = nI fo ∧ hI h' 4 2 x = nI dy ∧ hI h' 4 4 x = nI 0 ∧ hR h' 4 3 x = some l) → (∀ f, LST E h' l l 0 3 f) → Q none h') : gFn B mX3_init (d + 4) 1 3 [.ref x, .int (nI nb), .int (nI fo), .int (nI dy)] h Q := by
  refine gStartX (cut := []) pnX3_init okX3_init (Nat.le_of_ble_eq_true rfl) 60 ?_
  simp only [axC_nil, axC_hit, axC_def, cutAt, lvLive, Option.isSome_none, Option.isSome_some, catS, lvGet, lvIns, lvSet1, lvSet2, gLit_0, gLit_1, lv_args, fv0, fv1, fv2, fv3, isI_s, isL_s, isRf_s, isRf_n, gtI_s, gtL_s, gtV_s, gFilter_nil, gFilter_cons, gL1, gL2, gL3, gL4, gL5, va_rf_s, va_rf_n, hK_sI, hK_sR, hK_sA, hK_sJ, hK_sO, hI_sI, hI_sR, hI_sA, hI_sJ, hI_sO, hR_sI, hR_sR, hR_sA, hR_sJ, hR_sO, hN_sI, hN_sR, hN_sA, hN_sJ, hN_sO, hA_sI, hA_sR, hA_sA, hA_sJ, hA_sO, hJ_sI, hJ_sR, hJ_sA, hJ_sJ, hJ_sO, hO_sI, hO_sR, hO_sA, hO_sJ, hO_sO, up3_eq, up2_eq, List.map_cons, List.map_nil, List.sum_cons, List.sum_nil, List.nil_append, List.cons_append, Option.toList_some, Option.toList_none, true_and, and_true, if_true, if_false, and_self, true_or, or_true, or_false, false_or, false_and, and_false, not_true_eq_false, not_false_eq_true, forall_const, reduceCtorEq, implies_true, List.contains_cons, List.contains_nil, Bool.or_false, Bool.false_or, Bool.or_true, Bool.true_or, Bool.and_true, Bool.true_and, Bool.and_false, Bool.false_and, Bool.not_true, Bool.not_false, BEq.rfl, Bool.false_eq_true, Bool.true_eq_false, eq_self, ↓reduceIte, Nat.reduceAdd, Nat.reduceEqDiff, Nat.reduceBEq, Nat.reduceLT, Nat.reduceLeDiff, Nat.reduceSub, Nat.reduceMul, Nat.reduceBNe, List.append_nil, Nat.zero_le, Nat.zero_add, Nat.zero_ne_one, Nat.one_ne_zero, false_implies, true_implies, not_false_eq_true, ne_eq, upd_e, updL_e, bI_zo, nI0z, nI1o, nI1z, nI0o, nI0q, nI1q, nm1_lt, nm1_ge, ax_aload_n tX3_init_0, ax_obj tX3_init_1, ax_aload_n tX3_init_4, ax_new tX3_init_5, ax_dup tX3_init_8, ax_callI0 rfl rfl tX3_init_9, ax_putR tX3_init_12, ax_putN tX3_init_12, ax_aload_n tX3_init_15, ax_iconst tX3_init_16, ax_putI tX3_init_17, ax_aload_n tX3_init_20, ax_iconst tX3_init_21, ax_putZ tX3_init_22, ax_aload_n tX3_init_25, ax_iload_n tX3_init_26, ax_putI tX3_init_27, ax_aload_n tX3_init_30, ax_iload_n tX3_init_31, ax_putI tX3_init_32, ax_aload_n tX3_init_35, ax_iload_n tX3_init_36, ax_putI tX3_init_37, ax_vret tX3_init_40, f_187]
  refine gAx (cut := []) okX3_init 60 ?_
  simp only [axC_nil, axC_hit, axC_def, cutAt, lvLive, Option.isSome_none, Option.isSome_some, catS, lvGet, lvIns, lvSet1, lvSet2, gLit_0, gLit_1, lv_args, fv0, fv1, fv2, fv3, isI_s, isL_s, isRf_s, isRf_n, gtI_s, gtL_s, gtV_s, gFilter_nil, gFilter_cons, gL1, gL2, gL3, gL4, gL5, va_rf_s, va_rf_n, hK_sI, hK_sR, hK_sA, hK_sJ, hK_sO, hI_sI, hI_sR, hI_sA, hI_sJ, hI_sO, hR_sI, hR_sR, hR_sA, hR_sJ, hR_sO, hN_sI, hN_sR, hN_sA, hN_sJ, hN_sO, hA_sI, hA_sR, hA_sA, hA_sJ, hA_sO, hJ_sI, hJ_sR, hJ_sA, hJ_sJ, hJ_sO, hO_sI, hO_sR, hO_sA, hO_sJ, hO_sO, up3_eq, up2_eq, List.map_cons, List.map_nil, List.sum_cons, List.sum_nil, List.nil_append, List.cons_append, Option.toList_some, Option.toList_none, true_and, and_true, if_true, if_false, and_self, true_or, or_true, or_false, false_or, false_and, and_false, not_true_eq_false, not_false_eq_true, forall_const, reduceCtorEq, implies_true, List.contains_cons, List.contains_nil, Bool.or_false, Bool.false_or, Bool.or_true, Bool.true_or, Bool.and_true, Bool.true_and, Bool.and_false, Bool.false_and, Bool.not_true, Bool.not_false, BEq.rfl, Bool.false_eq_true, Bool.true_eq_false, eq_self, ↓reduceIte, Nat.reduceAdd, Nat.reduceEqDiff, Nat.reduceBEq, Nat.reduceLT, Nat.reduceLeDiff, Nat.reduceSub, Nat.reduceMul, Nat.reduceBNe, List.append_nil, Nat.zero_le, Nat.zero_add, Nat.zero_ne_one, Nat.one_ne_zero, false_implies, true_implies, not_false_eq_true, ne_eq, upd_e, updL_e, bI_zo, nI0z, nI1o, nI1z, nI0o, nI0q, nI1q, nm1_lt, nm1_ge, ax_aload_n tX3_init_0, ax_obj tX3_init_1, ax_aload_n tX3_init_4, ax_new tX3_init_5, ax_dup tX3_init_8, ax_callI0 rfl rfl tX3_init_9, ax_putR tX3_init_12, ax_putN tX3_init_12, ax_aload_n tX3_init_15, ax_iconst tX3_init_16, ax_putI tX3_init_17, ax_aload_n tX3_init_20, ax_iconst tX3_init_21, ax_putZ tX3_init_22, ax_aload_n tX3_init_25, ax_iload_n tX3_init_26, ax_putI tX3_init_27, ax_aload_n tX3_init_30, ax_iload_n tX3_init_31, ax_putI tX3_init_32, ax_aload_n tX3_init_35, ax_iload_n tX3_init_36, ax_putI tX3_init_37, ax_vret tX3_init_40, f_187, gn_0]
  try simp (disch := omega) only [z0, o1, nI_add, pk_mul, nI_ltI, nI_leI, nI_eq, nI_clamp, vpn, pk_sub, Nat.add_sub_cancel, bI_0, bI_1, eq_self, true_or, or_true, or_false, false_or, true_and, and_true, false_and, and_false, and_self, or_self, forall_const, not_true_eq_false, not_false_eq_true, false_implies, implies_true, true_implies, ↓reduceIte, if_true, if_false, Nat.not_lt_zero, Nat.zero_le, Nat.le_refl, Nat.lt_irrefl, ne_eq, reduceCtorEq, Bool.false_eq_true]
  intro l hl
  have lx : l ≠ x := fun q => by rw [q] at hl; omega
  have k0 : hK (nO h 0 l) l = 1 := by rw [hK_nO, va_up_eq, if_pos rfl]
  refine j_init (d := d) hX k0 ?_
  have xl : x ≠ l := fun q => lx q.symm
  have kx1 : hK (sR (sI (nO h 0 l) 0 0 l (nI 0)) 0 1 l (some E)) x = 5 := by simp only [hK_sR, hK_sI, hK_nO, va_up_eq, if_neg xl]; exact kx
  have i2 : hI (nO h 0 l) 0 2 l = nI 0 := by rw [hI_nO]; simp [nI]
  have Ln : ∀ f, LST E (sR (sI (nO h 0 l) 0 0 l (nI 0)) 0 1 l (some E)) l l 0 3 f := fun f => LST_new i2 k0
  have F1 : ∀ (ow : Nat → gTag) T, FRO ow T h (sR (sI (nO h 0 l) 0 0 l (nI 0)) 0 1 l (some E)) := fun ow T => (((FRO.rf h).nO hl).sI (Or.inr hl)).sR (Or.inr hl)
  generalize sR (sI (nO h 0 l) 0 0 l (nI 0)) 0 1 l (some E) = h1 at kx1 Ln F1
  refine gAx (cut := []) okX3_init 60 ?_
  simp only [axC_nil, axC_hit, axC_def, cutAt, lvLive, Option.isSome_none, Option.isSome_some, catS, lvGet, lvIns, lvSet1, lvSet2, gLit_0, gLit_1, lv_args, fv0, fv1, fv2, fv3, isI_s, isL_s, isRf_s, isRf_n, gtI_s, gtL_s, gtV_s, gFilter_nil, gFilter_cons, gL1, gL2, gL3, gL4, gL5, va_rf_s, va_rf_n, hK_sI, hK_sR, hK_sA, hK_sJ, hK_sO, hI_sI, hI_sR, hI_sA, hI_sJ, hI_sO, hR_sI, hR_sR, hR_sA, hR_sJ, hR_sO, hN_sI, hN_sR, hN_sA, hN_sJ, hN_sO, hA_sI, hA_sR, hA_sA, hA_sJ, hA_sO, hJ_sI, hJ_sR, hJ_sA, hJ_sJ, hJ_sO, hO_sI, hO_sR, hO_sA, hO_sJ, hO_sO, up3_eq, up2_eq, List.map_cons, List.map_nil, List.sum_cons, List.sum_nil, List.nil_append, List.cons_append, Option.toList_some, Option.toList_none, true_and, and_true, if_true, if_false, and_self, true_or, or_true, or_false, false_or, false_and, and_false, not_true_eq_false, not_false_eq_true, forall_const, reduceCtorEq, implies_true, List.contains_cons, List.contains_nil, Bool.or_false, Bool.false_or, Bool.or_true, Bool.true_or, Bool.and_true, Bool.true_and, Bool.and_false, Bool.false_and, Bool.not_true, Bool.not_false, BEq.rfl, Bool.false_eq_true, Bool.true_eq_false, eq_self, ↓reduceIte, Nat.reduceAdd, Nat.reduceEqDiff, Nat.reduceBEq, Nat.reduceLT, Nat.reduceLeDiff, Nat.reduceSub, Nat.reduceMul, Nat.reduceBNe, List.append_nil, Nat.zero_le, Nat.zero_add, Nat.zero_ne_one, Nat.one_ne_zero, false_implies, true_implies, not_false_eq_true, ne_eq, upd_e, updL_e, bI_zo, nI0z, nI1o, nI1z, nI0o, nI0q, nI1q, nm1_lt, nm1_ge, ax_aload_n tX3_init_0, ax_obj tX3_init_1, ax_aload_n tX3_init_4, ax_new tX3_init_5, ax_dup tX3_init_8, ax_callI0 rfl rfl tX3_init_9, ax_putR tX3_init_12, ax_putN tX3_init_12, ax_aload_n tX3_init_15, ax_iconst tX3_init_16, ax_putI tX3_init_17, ax_aload_n tX3_init_20, ax_iconst tX3_init_21, ax_putZ tX3_init_22, ax_aload_n tX3_init_25, ax_iload_n tX3_init_26, ax_putI tX3_init_27, ax_aload_n tX3_init_30, ax_iload_n tX3_init_31, ax_putI tX3_init_32, ax_aload_n tX3_init_35, ax_iload_n tX3_init_36, ax_putI tX3_init_37, ax_vret tX3_init_40, f_187, kx1]
  refine hq l _ hl lx (fun ow T hx => ((((((F1 ow T).sR (Or.inl hx)).sI (Or.inl hx)).sI (Or.inl hx)).sI (Or.inl hx)).sI (Or.inl hx)).sI (Or.inl hx)) ?_ (fun f => ?_)
  · simp [hK_sI, hK_sR, kx1, hI_sI, up3_eq, hR_sI, hR_sR]
  · obtain ⟨a1, a2, a3, a4, a5, a6⟩ := Ln f
    exact ⟨a1, by simp [hI_sI, hI_sR, up3_eq]; exact a2, a3, fun q => by simp [hR_sI, hR_sR, up3_eq]; exact a4 q, fun c => absurd rfl c, fun i hi => by omega⟩
theorem WP_p {i j : Nat} (wp : WP s a) (pz : PZ s a) (hi : i < s 25) (hj : j ≤ s 24) (h40 : s 27 < 40) : WP (va_up s 27 (s 27 + 1)) (nPp s a i j) := by
  obtain ⟨w1, w2, w3, w4, w5, w6, w7, w8⟩ := wp
  refine ⟨⟨w1.1, w1.2.1, w1.2.2.1, by simp [va_up_eq]; omega, w1.2.2.2.2⟩, w2, fun p hp => ?_, fun g hg => ?_, w5, w6, w7, w8⟩
  · have hp : p < s 27 + 1 := by simpa [va_up_eq] using hp
    show nPp s a i j 28 p < s 25 ∧ nPp s a i j 29 p ≤ s 24 ∧ a 30 p < 256
    simp only [nPp, up2_eq, Nat.reduceLeDiff, Nat.reduceLT, Nat.reduceEqDiff, Nat.one_ne_zero, Nat.zero_ne_one, Nat.reduceSub, Nat.reduceAdd, eq_self, true_or, or_true, or_false, false_or, true_and, and_true, false_and, and_false, and_self, or_self, forall_const, not_true_eq_false, not_false_eq_true, false_implies, implies_true, true_implies, ↓reduceIte, if_true, if_false, Nat.not_lt_zero, Nat.zero_le, Nat.le_refl, Nat.lt_irrefl, ne_eq, reduceCtorEq, Bool.false_eq_true]
    by_cases e : p = s 27
    · subst e
      have := pz.2.1 (s 27) (Nat.le_refl _) h40
      simp only [eq_self, true_or, or_true, or_false, false_or, true_and, and_true, false_and, and_false, and_self, or_self, forall_const, not_true_eq_false, not_false_eq_true, false_implies, implies_true, true_implies, ↓reduceIte, if_true, if_false, Nat.not_lt_zero, Nat.zero_le, Nat.le_refl, Nat.lt_irrefl, ne_eq, reduceCtorEq, Bool.false_eq_true]
      omega
    · simp only [e, eq_self, true_or, or_true, or_false, false_or, true_and, and_true, false_and, and_false, and_self, or_self, forall_const, not_true_eq_false, not_false_eq_true, false_implies, implies_true, true_implies, ↓reduceIte, if_true, if_false, Nat.not_lt_zero, Nat.zero_le, Nat.le_refl, Nat.lt_irrefl, ne_eq, reduceCtorEq, Bool.false_eq_true]
      exact w3 p (by omega)
  · have := w4 g hg
    exact ⟨Nat.lt_succ_of_lt this.1, this.2⟩
theorem PZ_p {i j : Nat} (pz : PZ s a) : PZ (va_up s 27 (s 27 + 1)) (nPp s a i j) := ⟨pz.1, fun p h1 h2 => pz.2.1 p (Nat.le_of_succ_le h1) h2, pz.2.2.1, pz.2.2.2.1, pz.2.2.2.2⟩
set_option maxRecDepth 100000 in
set_option maxHeartbeats 6400000 in
theorem DS.ppn {x l e' fo dy : Nat} (hd : DS E Y ow v rl h s a) (wp : WP s a) (pz : PZ s a) (h40 : s 27 < 40) (x0 : hK h x = 0) (l0 : hK h l = 0) (lx : l ≠ x) (hfo : fo < s 25) (hdy : dy ≤ s 24) (ff : ∀ (ow : Nat → gTag) T, ow (Y 0 5 0) ∈ T → (s 27 ≠ 0 → ow (Y 1 5 0) ∈ T) → FRO ow T h h') (xf : hK h' x = 5 ∧ hI h' 4 0 x = nI (s 27) ∧ hI h' 4 1 x = nI fo ∧ hI h' 4 2 x = nI dy ∧ hI h' 4 4 x = nI 0 ∧ hR h' 4 3 x = some l) (Ll : ∀ f e, LST E h' l e 0 3 f) (L5 : LST E h' (Y 0 5 0) e' (s 27 + 1) 4 (va_up (fun i => Y 2 i 0) (s 27) x)) (he : s 27 ≠ 0 ∧ e' = Y 1 5 0 ∨ hK h e' = 0 ∧ hK h' e' = 16 ∧ x ≠ e' ∧ l ≠ e') : ∃ Y2 ow2, DS E Y2 ow2 v rl h' (va_up s 27 (s 27 + 1)) (nPp s a fo dy) ∧ FRO ow [(0, 5, 0), (1, 5, 0)] h h' ∧ (∀ b, hK h b ≠ 0 → ow2 b = ow b) ∧ Y2 0 = Y 0 ∧ Y2 2 (s 27) 0 = x := by
  obtain ⟨own, d0, df, dt, db, dl, dp, dg, dx, da, dh, du, dr⟩ := id hd
  obtain ⟨c0, i24, i25, i44, ⟨r1, r3, r5, r6, r7, r8, r9⟩, ⟨r11, r12, r13⟩, hm, hm1, hm2, hm3⟩ := id d0
  have l5 := dl.1.1
  have l6 := dl.2.1.1
  have l7 := dl.2.2.1.1
  have l8 := dl.2.2.2.1.1
  have l9 := dl.2.2.2.2.1
  have wpb := wp.1
  generalize hw : va_up (va_up ow x (2, s 27, 0)) l (2, s 27, 3) = ow1
  have o1x : ow1 x = (2, s 27, 0) := by rw [← hw, va_up_eq, if_neg (fun q => lx q.symm), va_up_eq, if_pos rfl]
  have o1l : ow1 l = (2, s 27, 3) := by rw [← hw, va_up_eq, if_pos rfl]
  have o1o : ∀ b, hK h b ≠ 0 → ow1 b = ow b := fun b hb => by rw [← hw, va_up_eq, if_neg (fun q => hb (by rw [q]; exact l0)), va_up_eq, if_neg (fun q => hb (by rw [q]; exact x0))]
  have own1 : OWN Y ow1 h s a := by rw [← hw]; exact (own.add x0).add l0
  have o05 := (own1 0 5 0 (And.intro (by omega) (by omega))).2
  have o15 : s 27 ≠ 0 → ow1 (Y 1 5 0) = (1, 5, 0) := fun q => (own1 1 5 0 (And.intro rfl (by omega))).2
  have hf : FRO ow1 [(0, 5, 0), (1, 5, 0)] h h' := ff ow1 _ (by simp [o05]) (fun q => by simp [o15 q])
  have kl := (Ll (fun _ => 0) 0).1
  have ke : hK h' e' ≠ 0 := by
    rcases he with ⟨q1, q2⟩ | ⟨_, q2, _⟩
    · have := (own1 1 5 0 (And.intro rfl (by omega))).1
      rw [q2, (hf.1 _ this).1]; exact this
    · omega
  have ow2o : ∀ b, hK h b ≠ 0 → va_up ow1 e' (1, 5, 0) b = ow1 b := fun b hb => by
    rw [va_up_eq]
    by_cases q : b = e'
    · rw [if_pos q]
      rcases he with ⟨q1, q2⟩ | ⟨q1, _⟩
      · rw [q, q2]; exact (o15 q1).symm
      · rw [q] at hb; exact absurd q1 hb
    · rw [if_neg q]
  have nxe : x ≠ e' ∧ l ≠ e' := by
    rcases he with ⟨q1, q2⟩ | ⟨_, _, q3⟩
    · have := (own1 1 5 0 (And.intro rfl (by omega))).1
      exact ⟨fun q => this (by rw [← q2, ← q]; exact x0), fun q => this (by rw [← q2, ← q]; exact l0)⟩
    · exact q3
  generalize hY : (fun r j k => if r = 2 ∧ j = s 27 then (if k = 0 then x else l) else if r = 1 ∧ j = 5 ∧ k = 0 then e' else Y r j k) = Y'
  have yo : ∀ r j k, ¬ (r = 2 ∧ j = s 27) → ¬ (r = 1 ∧ j = 5 ∧ k = 0) → Y' r j k = Y r j k := fun r j k q1 q2 => by rw [← hY]; simp only [if_neg q1, if_neg q2]
  have yx : Y' 2 (s 27) 0 = x := by rw [← hY]; simp
  have yl : Y' 2 (s 27) 3 = l := by rw [← hY]; simp
  have ye : Y' 1 5 0 = e' := by rw [← hY]; simp
  have yr : ∀ r, r ≠ 2 → r ≠ 1 → Y' r = Y r := fun r q1 q2 => by funext j k; exact yo r j k (by omega) (by omega)
  have y0 := yr 0 (by omega) (by omega)
  have y3 := yr 3 (by omega) (by omega)
  have y4 := yr 4 (by omega) (by omega)
  have y5 := yr 5 (by omega) (by omega)
  have y6 := yr 6 (by omega) (by omega)
  have y7 := yr 7 (by omega) (by omega)
  have y8 := yr 8 (by omega) (by omega)
  have own' := own1.F hf
  have pg0 : pgN s a (s 27) = 0 := cntN_0 (fun g hg => beq_false_of_ne (by have := (wp.2.2.2.1 g hg).1; omega))
  have own6 : OWN Y' (va_up ow1 e' (1, 5, 0)) h' (va_up s 27 (s 27 + 1)) (nPp s a fo dy) := by
    intro r j k hv
    have old : vld s a r j k → ¬ (r = 2 ∧ j = s 27) → ¬ (r = 1 ∧ j = 5 ∧ k = 0) → hK h' (Y' r j k) ≠ 0 ∧ va_up ow1 e' (1, 5, 0) (Y' r j k) = (r, j, k) := fun hv q1 q2 => by
      rw [yo r j k q1 q2]
      exact ⟨(own' r j k hv).1, by rw [ow2o _ (own1 r j k hv).1]; exact (own1 r j k hv).2⟩
    match r, hv with
    | 0, hv => exact old hv (by omega) (by omega)
    | 1, hv =>
      have ek : k = 0 := hv.1
      have hw : j = 5 ∧ 0 < s 27 + 1 ∨ j = 6 ∧ 0 < s 31 ∨ j = 7 ∧ 0 < s 36 ∨ j = 8 ∧ 0 < s 46 ∨ j = 9 ∧ 0 < s 57 := hv.2
      subst ek
      by_cases q : j = 5
      · subst q
        rw [ye]
        exact ⟨ke, by rw [va_up_eq, if_pos rfl]⟩
      · exact old ⟨rfl, by omega⟩ (by omega) (by omega)
    | 2, hv =>
      have hj : j < s 27 + 1 := hv.1
      have hk : k = 0 ∨ k = 3 ∨ k = 1 ∧ 0 < pgN s a j := hv.2
      by_cases q : j = s 27
      · subst q
        rcases hk with rfl | rfl | ⟨_, q⟩
        · rw [yx]; exact ⟨by omega, by rw [va_up_eq, if_neg nxe.1]; exact o1x⟩
        · rw [yl]; exact ⟨by omega, by rw [va_up_eq, if_neg nxe.2]; exact o1l⟩
        · omega
      · exact old ⟨show j < s 27 by omega, hk⟩ (by omega) (by omega)
    | 3, hv => exact old hv (by omega) (by omega)
    | 4, hv => exact old hv (by omega) (by omega)
    | 5, hv => exact old hv (by omega) (by omega)
    | 6, hv => exact old hv (by omega) (by omega)
    | 7, hv => exact old hv (by omega) (by omega)
    | 8, hv => exact old hv (by omega) (by omega)
    | (n + 9), hv => exact hv.elim
  have nT : ∀ r i k, r ≠ 0 → r ≠ 1 → ¬ (r, i, k) ∈ [(0, 5, 0), (1, 5, 0)] := fun r i k h2 h3 => by simp [h2, h3]
  have ep : ∀ k q, q ≠ s 27 → nPp s a fo dy k q = a k q := fun k q hq => by simp [nPp, up2_eq, hq]
  refine ⟨Y', va_up ow1 e' (1, 5, 0), ⟨own6, D0.K own1 hf (by simp) ⟨y0, y7, y8⟩ ⟨rfl, rfl, rfl⟩ (fun k _ => rfl) d0, DF.K own1 hf (by simp) (by rw [y0]) rfl (fun j => rfl) df, DT.K own1 hf (by simp) (by rw [y0]) (Nat.le_refl _) (fun j => rfl) dt, DB.K own1 hf y0 db, ⟨?_, DL.K (n := s 31) (s' := s) own1 hf (by omega) (by simp) (by simp) (by omega) (by rw [y0]) (yo _ _ _ (by omega) (by omega)) (fun i _ => by rw [y3]) dl.2.1, DL.K (n := s 36) (s' := s) own1 hf (by omega) (by simp) (by simp) (by omega) (by rw [y0]) (yo _ _ _ (by omega) (by omega)) (fun i _ => by rw [y4]) dl.2.2.1, DL.K (n := s 46) (s' := s) own1 hf (by omega) (by simp) (by simp) (by omega) (by rw [y0]) (yo _ _ _ (by omega) (by omega)) (fun i _ => by rw [y5]) dl.2.2.2.1, DL.K (n := s 57) (s' := s) own1 hf (by omega) (by simp) (by simp) (by omega) (by rw [y0]) (yo _ _ _ (by omega) (by omega)) (fun i _ => by rw [y6]) dl.2.2.2.2⟩, ?_, DG.K own1 wp hf (fun i k => nT 3 i k (by omega) (by omega)) ⟨fun _ _ => by rw [y3], fun i hi => yo 2 i 0 (by omega) (by omega), fun i hi => by rw [y4]⟩ rfl (fun g hg => ⟨rfl, rfl⟩) dg, fun u hu => DX.K own1 hf hu (fun k => nT 4 u k (by omega) (by omega)) (fun _ => by rw [y4]) ⟨rfl, rfl, rfl, rfl, fun _ _ => rfl, fun _ _ => rfl, fun _ _ => rfl, fun _ _ => rfl, fun _ _ => rfl⟩ (dx u hu), fun b hb => DA.K own1 hf hb (fun k => nT 5 b k (by omega) (by omega)) (fun _ => by rw [y5]) ⟨Nat.le_refl _, rfl⟩ ⟨rfl, rfl, rfl, rfl, rfl, rfl, rfl, fun _ _ => rfl, fun _ _ => rfl⟩ (da b hb), fun i hi => DH.K own1 hf hi (fun k => nT 6 i k (by omega) (by omega)) (fun _ => by rw [y6]) ⟨rfl, rfl, rfl, rfl, fun _ _ => rfl⟩ (dh i hi), DU.K own1 hf ⟨nT 7 0 0 (by omega) (by omega), nT 7 0 4 (by omega) (by omega)⟩ y7 rfl (fun j => rfl) du, DR.K own1 hf (fun q k _ => nT 8 q k (by omega) (by omega)) y8 dr⟩, hf.cw o1o, fun b hb => by rw [ow2o b hb]; exact o1o b hb, y0, yx⟩
  · rw [show Y' 0 5 0 = Y 0 5 0 by rw [y0], ye]
    exact L5.M (SAM.rf _ _) (fun _ => SAM.rf _ _) (fun i hi => ⟨by
      by_cases q : i = s 27
      · subst q; rw [yx, va_up_eq, if_pos rfl]
      · rw [yo 2 i 0 (by omega) (by omega), va_up_eq, if_neg q], rfl⟩)
  · intro q hq
    have hq : q < s 27 + 1 := hq
    by_cases e : q = s 27
    · subst e
      have eN : pgN (va_up s 27 (s 27 + 1)) (nPp s a fo dy) (s 27) = 0 := pg0
      have z30 : nPp s a fo dy 30 (s 27) = 0 := pz.2.1 (s 27) (Nat.le_refl _) h40
      have e28 : nPp s a fo dy 28 (s 27) = fo := by simp [nPp, up2_eq]
      have e29 : nPp s a fo dy 29 (s 27) = dy := by simp [nPp, up2_eq]
      rw [eN, z30, e28, e29]
      obtain ⟨x1, x2, x3, x4, x5, x6⟩ := xf
      exact ⟨by rw [yx]; exact x2, ⟨by rw [yx]; exact x1, by rw [yx]; exact x3, by rw [yx]; exact x4, by rw [yx, yl]; exact x6, by rw [yx]; exact x5⟩, by rw [yl]; exact Ll _ _, by omega, by omega, by omega⟩
    · have hq : q < s 27 := by omega
      exact DP.K own1 hf hq (fun k => nT 2 q k (by omega) (by omega)) ⟨fun k => yo 2 q k (by omega) (by omega), fun _ _ => by rw [y3]⟩ ⟨rfl, rfl, ep 28 q e, ep 29 q e, ep 30 q e⟩ (dp q hq)
end X8R
