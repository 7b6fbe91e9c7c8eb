/-! THE DESK: ask, as a whole -/
theorem WP_0 {s : Nat → Nat} {a : Nat → Nat → Nat} (wp : WP s a) : WP (va_up s 44 0) a := by
  obtain ⟨w1, w2, w3, w4, w5, w6, w7, w8⟩ := wp
  exact ⟨⟨w1.1, w1.2.1, w1.2.2.1, w1.2.2.2.1, w1.2.2.2.2.1, w1.2.2.2.2.2.1, by simp [va_up_eq]⟩, w2, w3, w4, w5, w6, w7, fun k hk => by simp [va_up_eq] at hk⟩
theorem gs_le (n : Nat) : gs n ≤ 366 ∧ gc n ≤ 1 := by
  unfold gs gc
  have := capF_le (n + 1)
  split <;> omega
theorem ASK.A {h h' : gHp} {z V W : Nat → Nat} {I R : List (Nat × Nat × Nat)} {A : List (Nat × Nat)} {O : List Nat} (t : ASK h z V W) (f : FRA I R A O h h') (h1 : ∀ k, ¬ (1, k, z 0) ∈ I) (h2 : ∀ k, ¬ (1, k, z 0) ∈ R) (h3 : ¬ (12, z 5) ∈ A) : ASK h' z V W := by
  obtain ⟨⟨k0, r5, k5, n5⟩, ⟨v0, v1, v2, v3, v4, v6, v7, v9, v10, v11, v12⟩, b6, b10, b11, b12, bv, aw, bw⟩ := t
  have q0 : hK h (z 0) ≠ 0 := by omega
  have q5 : hK h (z 5) ≠ 0 := by omega
  have i0 := fun k => f.2.1 1 k (z 0) q0 (h1 k)
  have j0 := fun k => f.2.2.1 1 k (z 0) q0 (h2 k)
  exact ⟨⟨by rw [(f.1 _ q0).1]; exact k0, by rw [j0]; exact r5, by rw [(f.1 _ q5).1]; exact k5, by rw [(f.1 _ q5).2]; exact n5⟩, ⟨by rw [i0]; exact v0, by rw [i0]; exact v1, by rw [i0]; exact v2, by rw [i0]; exact v3, by rw [i0]; exact v4, by rw [i0]; exact v6, by rw [i0]; exact v7, by rw [i0]; exact v9, by rw [i0]; exact v10, by rw [i0]; exact v11, by rw [i0]; exact v12⟩, b6, b10, b11, b12, bv, fun k hk => by rw [f.2.2.2.1 _ _ q5 h3]; exact aw k hk, bw⟩
theorem ASK.W {h : gHp} {z V W W' : Nat → Nat} (t : ASK h z V W) (h1 : ∀ k, k < V 6 → W' k = W k) (h2 : ∀ k, W' k < 2 ^ 31) : ASK h z V W' := by
  obtain ⟨q1, q2, b6, b10, b11, b12, bv, aw, bw⟩ := t
  exact ⟨q1, q2, b6, b10, b11, b12, bv, fun k hk => by rw [h1 k hk]; exact aw k hk, h2⟩
theorem ASK.V7 {h : gHp} {z V W : Nat → Nat} {y : Nat} (ha : ASK h z V W) (hy : y < 2 ^ 31) : ASK (sI h 1 7 (z 0) (sg y)) z (va_up V 7 y) W := by
  obtain ⟨⟨k0, r5, k5, n5⟩, ⟨v0, v1, v2, v3, v4, v6, v7, v9, v10, v11, v12⟩, b6, b10, b11, b12, bv, aw, bw⟩ := ha
  refine ⟨⟨k0, r5, k5, n5⟩, ?_, ?_, ?_, ?_, ?_, ?_, ?_, bw⟩
  · simp only [hI_sI, up3_eq, va_up_eq, Nat.reduceLeDiff, Nat.reduceLT, Nat.reduceEqDiff, Nat.one_ne_zero, Nat.zero_ne_one, Nat.reduceSub, Nat.reduceAdd, eq_self, true_or, or_true, or_false, false_or, true_and, and_true, false_and, and_false, and_self, or_self, forall_const, not_true_eq_false, not_false_eq_true, false_implies, implies_true, true_implies, ↓reduceIte, if_true, if_false, Nat.not_lt_zero, Nat.zero_le, Nat.le_refl, Nat.lt_irrefl, ne_eq, reduceCtorEq, Bool.false_eq_true, false_and, true_and]
    exact ⟨v0, v1, v2, v3, v4, v6, v9, v10, v11, v12⟩
  · simp [va_up_eq]; exact b6
  · simp [va_up_eq]; exact b10
  · simp [va_up_eq]; exact b11
  · simp [va_up_eq]; exact b12
  · intro k
    simp only [va_up_eq]
    split
    · omega
    · exact bv k
  · intro k hk
    simp [va_up_eq] at hk
    exact aw k hk
section AKE
variable {s : Nat → Nat} {a : Nat → Nat → Nat} {i u w : Nat}
theorem akE_o {k b : Nat} (hb : b ≠ s 46) (hk : k ≠ 51) : akE s a i u w k b = a k b := by
  simp only [akE, akV, akU, up2_eq, hb, and_false, if_false, hk, false_and]
theorem akE_51 {b j : Nat} (hb : b ≠ s 46) (h44 : s 44 ≤ 4) (hj : j < 4) : akE s a i u w 51 (4 * b + j) = a 51 (4 * b + j) := by
  simp only [akE, akV, akU, up2_eq, Nat.reduceLeDiff, Nat.reduceLT, Nat.reduceEqDiff, Nat.one_ne_zero, Nat.zero_ne_one, Nat.reduceSub, Nat.reduceAdd, eq_self, true_or, or_true, or_false, false_or, true_and, and_true, false_and, and_false, and_self, or_self, forall_const, not_true_eq_false, not_false_eq_true, false_implies, implies_true, true_implies, ↓reduceIte, if_true, if_false, Nat.not_lt_zero, Nat.zero_le, Nat.le_refl, Nat.lt_irrefl, ne_eq, reduceCtorEq, Bool.false_eq_true]
  rw [if_neg (by omega)]
theorem sm_K {b sd wd : Nat} (hb : b < s 46) (h44 : s 44 ≤ 4) (h50 : a 50 b ≤ 4) : smK (akN (va_up s 44 0) a b sd wd) (fun k => if k < 4 then a 51 (4 * b + k) else 0) (va_up (akI (s 46) i u w (s 24)) 6 (s 44)) (fun k => if k < s 44 then a 45 k else 0) = smB (akV s a i u w) (s 46) i u w b := by
  have e47 : ∀ k, k ≠ 51 → akV s a i u w k b = a k b := fun k hk => by simp only [akV, akU, up2_eq, show ¬ b = s 46 by omega, and_false, if_false, hk, false_and]
  have e51 : ∀ j, j < 4 → akV s a i u w 51 (4 * b + j) = a 51 (4 * b + j) := fun j hj => by
    simp only [akV, akU, up2_eq, Nat.reduceLeDiff, Nat.reduceLT, Nat.reduceEqDiff, Nat.one_ne_zero, Nat.zero_ne_one, Nat.reduceSub, Nat.reduceAdd, eq_self, true_or, or_true, or_false, false_or, true_and, and_true, false_and, and_false, and_self, or_self, forall_const, not_true_eq_false, not_false_eq_true, false_implies, implies_true, true_implies, ↓reduceIte, if_true, if_false, Nat.not_lt_zero, Nat.zero_le, Nat.le_refl, Nat.lt_irrefl, ne_eq, reduceCtorEq, Bool.false_eq_true]
    rw [if_neg (by omega)]
  have c50 : akV s a i u w 50 (s 46) = s 44 := by simp [akV, akU, up2_eq]
  have c51 : ∀ j, j < s 44 → akV s a i u w 51 (4 * s 46 + j) = a 45 j := fun j hj => by
    simp only [akV, akU, up2_eq, Nat.reduceLeDiff, Nat.reduceLT, Nat.reduceEqDiff, Nat.one_ne_zero, Nat.zero_ne_one, Nat.reduceSub, Nat.reduceAdd, eq_self, true_or, or_true, or_false, false_or, true_and, and_true, false_and, and_false, and_self, or_self, forall_const, not_true_eq_false, not_false_eq_true, false_implies, implies_true, true_implies, ↓reduceIte, if_true, if_false, Nat.not_lt_zero, Nat.zero_le, Nat.le_refl, Nat.lt_irrefl, ne_eq, reduceCtorEq, Bool.false_eq_true]
    rw [if_pos (by omega)]
    congr 1
    omega
  have A1 : allN (fun k => anyN (fun j => (if j < 4 then a 51 (4 * b + j) else 0) == (if k < s 44 then a 45 k else 0)) (a 50 b)) (s 44) = akA (akV s a i u w) b (s 46) := by
    unfold akA akF
    rw [c50]
    refine allN_cg (fun k hk => ?_)
    rw [e47 50 (by omega), c51 k hk]
    refine anyN_cg (fun j hj => ?_)
    rw [e51 j (by omega), if_pos (by omega), if_pos hk]
  have A2 : allN (fun k => anyN (fun j => (if j < s 44 then a 45 j else 0) == (if k < 4 then a 51 (4 * b + k) else 0)) (s 44)) (a 50 b) = akA (akV s a i u w) (s 46) b := by
    unfold akA akF
    rw [c50, e47 50 (by omega)]
    refine allN_cg (fun k hk => ?_)
    rw [e51 k (by omega), if_pos (by omega)]
    refine anyN_cg (fun j hj => ?_)
    rw [c51 j hj, if_pos hj]
  unfold smB
  rw [e47 47 (by omega), e47 48 (by omega), e47 49 (by omega), ← A1, ← A2]
  show ((a 47 b == i) && ((a 48 b == u) && ((a 49 b == w) && (_ && _)))) = _
  rw [Bool.and_comm (allN _ (a 50 b))]
  rfl
end AKE
section X8K
variable {B : gB} {h : gHp} {d E v mi : Nat} {Y : gYm} {ow : Nat → gTag} {rl : List (Nat × List (Nat × Nat))} {s : Nat → Nat} {a : Nat → Nat → Nat} {Q : Option Value → gHp → Prop}
/-- what is not the desk's is as before -/
def FR9 (ow : Nat → gTag) (h h' : gHp) : Prop := (∀ b, hK h b ≠ 0 → hK h' b = hK h b ∧ hN h' b = hN h b) ∧ ∀ b, hK h b ≠ 0 → 9 ≤ (ow b).1 → SAM h h' b
theorem FRO.n9 {T : List gTag} {h' : gHp} (hf : FRO ow T h h') (hT : ∀ q, q ∈ T → q.1 < 9) : FR9 ow h h' := ⟨hf.1, fun b hb h9 => hf.2 b hb (fun q => by have := hT _ q; omega)⟩
theorem FRS.n9 {T : List gTag} {h' : gHp} (hf : FRS ow T h h') (hT : ∀ q, q ∈ T → q.1 < 9) : FR9 ow h h' := ⟨hf.1, fun b hb h9 => (hf.2 b hb (fun q => by have := hT _ q; omega)).2 (by omega) (by omega)⟩
theorem FRO.cw {T : List gTag} {h' : gHp} {ow' : Nat → gTag} (hf : FRO ow' T h h') (ho : ∀ b, hK h b ≠ 0 → ow' b = ow b) : FRO ow T h h' := ⟨hf.1, fun b hb hn => hf.2 b hb (by rw [ho b hb]; exact hn)⟩
set_option maxRecDepth 100000 in
set_option maxHeartbeats 6400000 in
theorem x_ask (hX : gXt B E mi) (hd : DS E Y ow v rl h s a) (wp : WP s a) (wa : WA s a) (pz : PZ s a) (hB : ∀ j, a 51 j < 2 ^ 31) (f l k : Int32)
    (h1 : ∀ i u w h' Y' ow', f = nI i → i < s 25 → l = nI u → k = nI w → u ≤ w → w ≤ 4999 → s 44 ≤ 4 → s 46 < 20 → DS E Y' ow' v rl h' (va_up (va_up s 44 0) 46 (s 46 + 1)) (akE s a i u w) → FR9 ow h h' → (∀ b, hK h b ≠ 0 → ow' b = ow b) → Y' 0 0 0 = Y 0 0 0 → Q (some (.int (nI (s 46)))) h')
    (h0 : ¬ askOk s f l k → Q (some (.int (-nI 1))) h) : gFn B mX8_ask (d + 8) 4 600 [.ref (Y 0 0 0), .int f, .int l, .int k] h Q := by
  obtain ⟨own, d0, df, dt, db, dl, dp, dg, dx, da, dh, du, dr⟩ := id hd
  obtain ⟨c0, i24, i25, i44, ⟨r1, r3, r5, r6, r7, r8, r9⟩, ⟨r11, r12, r13⟩, hm, hm1, hm2, hm3⟩ := id d0
  have l5 := dl.1.1
  have l6 := dl.2.1.1
  have l7 := dl.2.2.1.1
  have l8 := dl.2.2.2.1.1
  have l9 := dl.2.2.2.2.1
  have wpb := wp.1
  have h46 := wa.1
  refine gStartX (cut := []) pnX8_ask okX8_ask (Nat.le_of_ble_eq_true rfl) 60 ?_
  simp only [axC_nil, axC_hit, axC_def, cutAt, lvLive, Option.isSome_none, Option.isSome_some, catS, lvGet, lvIns, lvSet1, lvSet2, gLit_0, gLit_1, lv_args, fv0, fv1, fv2, fv3, isI_s, isL_s, isRf_s, isRf_n, gtI_s, gtL_s, gtV_s, gFilter_nil, gFilter_cons, gL1, gL2, gL3, gL4, gL5, va_rf_s, va_rf_n, hK_sI, hK_sR, hK_sA, hK_sJ, hK_sO, hI_sI, hI_sR, hI_sA, hI_sJ, hI_sO, hR_sI, hR_sR, hR_sA, hR_sJ, hR_sO, hN_sI, hN_sR, hN_sA, hN_sJ, hN_sO, hA_sI, hA_sR, hA_sA, hA_sJ, hA_sO, hJ_sI, hJ_sR, hJ_sA, hJ_sJ, hJ_sO, hO_sI, hO_sR, hO_sA, hO_sJ, hO_sO, up3_eq, up2_eq, List.map_cons, List.map_nil, List.sum_cons, List.sum_nil, List.nil_append, List.cons_append, Option.toList_some, Option.toList_none, true_and, and_true, if_true, if_false, and_self, true_or, or_true, or_false, false_or, false_and, and_false, not_true_eq_false, not_false_eq_true, forall_const, reduceCtorEq, implies_true, List.contains_cons, List.contains_nil, Bool.or_false, Bool.false_or, Bool.or_true, Bool.true_or, Bool.and_true, Bool.true_and, Bool.and_false, Bool.false_and, Bool.not_true, Bool.not_false, BEq.rfl, Bool.false_eq_true, Bool.true_eq_false, eq_self, ↓reduceIte, Nat.reduceAdd, Nat.reduceEqDiff, Nat.reduceBEq, Nat.reduceLT, Nat.reduceLeDiff, Nat.reduceSub, Nat.reduceMul, Nat.reduceBNe, List.append_nil, Nat.zero_le, Nat.zero_add, Nat.zero_ne_one, Nat.one_ne_zero, false_implies, true_implies, not_false_eq_true, ne_eq, upd_e, updL_e, bI_zo, nI0z, nI1o, nI1z, nI0o, nI0q, nI1q, nm1_lt, nm1_ge, ax_aload_n tX8_ask_0, ax_iload_n tX8_ask_1, ax_callV1 tX8_ask_2, ax_if_eq tX8_ask_5, ax_iload_n tX8_ask_8, ax_if_lt tX8_ask_9, ax_iload_n tX8_ask_12, ax_iload_n tX8_ask_13, ax_icmp_gt tX8_ask_14, ax_iload_n tX8_ask_17, ax_sipush tX8_ask_18, ax_icmp_le tX8_ask_21, ax_iconst tX8_ask_24, ax_iretI tX8_ask_25, ax_aload_n tX8_ask_26, ax_getI tX8_ask_27, ax_iconst tX8_ask_30, ax_icmp_gt tX8_ask_31, ax_aload_n tX8_ask_34, ax_getR tX8_ask_35, ax_callV0 tX8_ask_38, ax_bipush tX8_ask_41, ax_icmp_lt tX8_ask_43, ax_iconst tX8_ask_46, ax_iretI tX8_ask_47, ax_new tX8_ask_48, ax_dup tX8_ask_51, ax_aload_n tX8_ask_52, ax_getR tX8_ask_53, ax_callV0 tX8_ask_56, ax_iload_n tX8_ask_59, ax_iload_n tX8_ask_60, ax_iload_n tX8_ask_61, ax_aload_n tX8_ask_62, ax_getI tX8_ask_63, ax_astoreR tX8_ask_69, ax_astoreN tX8_ask_69, ax_iconst tX8_ask_71, ax_istore tX8_ask_72, ax_iload tX8_ask_74, ax_aload_n tX8_ask_76, ax_getI tX8_ask_77, ax_icmp_ge tX8_ask_80, ax_aload tX8_ask_83, ax_aload_n tX8_ask_85, ax_getR tX8_ask_86, ax_iload tX8_ask_89, ax_iaload tX8_ask_91, ax_callV1 tX8_ask_92, ax_iinc tX8_ask_95, ax_goto tX8_ask_98, ax_aload_n tX8_ask_101, ax_iconst tX8_ask_102, ax_putI tX8_ask_103, ax_aload tX8_ask_106, ax_aload_n tX8_ask_108, ax_aload tX8_ask_109, ax_callV1 tX8_ask_111, ax_putI tX8_ask_114, ax_aload_n tX8_ask_117, ax_getR tX8_ask_118, ax_aload tX8_ask_121, ax_callV1 tX8_ask_123, ax_pop tX8_ask_126, ax_aload tX8_ask_127, ax_getI tX8_ask_129, ax_iretI tX8_ask_132, f_0, f_1, f_83, f_94, f_190, f_194, c0]
  refine x_isFolder (d := d + 6) hd wp f (fun i e hi => ?_) (fun c => ?_)
  rotate_left
  · refine gAx (cut := []) okX8_ask 60 ?_
    simp only [axC_nil, axC_hit, axC_def, cutAt, lvLive, Option.isSome_none, Option.isSome_some, catS, lvGet, lvIns, lvSet1, lvSet2, gLit_0, gLit_1, lv_args, fv0, fv1, fv2, fv3, isI_s, isL_s, isRf_s, isRf_n, gtI_s, gtL_s, gtV_s, gFilter_nil, gFilter_cons, gL1, gL2, gL3, gL4, gL5, va_rf_s, va_rf_n, hK_sI, hK_sR, hK_sA, hK_sJ, hK_sO, hI_sI, hI_sR, hI_sA, hI_sJ, hI_sO, hR_sI, hR_sR, hR_sA, hR_sJ, hR_sO, hN_sI, hN_sR, hN_sA, hN_sJ, hN_sO, hA_sI, hA_sR, hA_sA, hA_sJ, hA_sO, hJ_sI, hJ_sR, hJ_sA, hJ_sJ, hJ_sO, hO_sI, hO_sR, hO_sA, hO_sJ, hO_sO, up3_eq, up2_eq, List.map_cons, List.map_nil, List.sum_cons, List.sum_nil, List.nil_append, List.cons_append, Option.toList_some, Option.toList_none, true_and, and_true, if_true, if_false, and_self, true_or, or_true, or_false, false_or, false_and, and_false, not_true_eq_false, not_false_eq_true, forall_const, reduceCtorEq, implies_true, List.contains_cons, List.contains_nil, Bool.or_false, Bool.false_or, Bool.or_true, Bool.true_or, Bool.and_true, Bool.true_and, Bool.and_false, Bool.false_and, Bool.not_true, Bool.not_false, BEq.rfl, Bool.false_eq_true, Bool.true_eq_false, eq_self, ↓reduceIte, Nat.reduceAdd, Nat.reduceEqDiff, Nat.reduceBEq, Nat.reduceLT, Nat.reduceLeDiff, Nat.reduceSub, Nat.reduceMul, Nat.reduceBNe, List.append_nil, Nat.zero_le, Nat.zero_add, Nat.zero_ne_one, Nat.one_ne_zero, false_implies, true_implies, not_false_eq_true, ne_eq, upd_e, updL_e, bI_zo, nI0z, nI1o, nI1z, nI0o, nI0q, nI1q, nm1_lt, nm1_ge, ax_aload_n tX8_ask_0, ax_iload_n tX8_ask_1, ax_callV1 tX8_ask_2, ax_if_eq tX8_ask_5, ax_iload_n tX8_ask_8, ax_if_lt tX8_ask_9, ax_iload_n tX8_ask_12, ax_iload_n tX8_ask_13, ax_icmp_gt tX8_ask_14, ax_iload_n tX8_ask_17, ax_sipush tX8_ask_18, ax_icmp_le tX8_ask_21, ax_iconst tX8_ask_24, ax_iretI tX8_ask_25, ax_aload_n tX8_ask_26, ax_getI tX8_ask_27, ax_iconst tX8_ask_30, ax_icmp_gt tX8_ask_31, ax_aload_n tX8_ask_34, ax_getR tX8_ask_35, ax_callV0 tX8_ask_38, ax_bipush tX8_ask_41, ax_icmp_lt tX8_ask_43, ax_iconst tX8_ask_46, ax_iretI tX8_ask_47, ax_new tX8_ask_48, ax_dup tX8_ask_51, ax_aload_n tX8_ask_52, ax_getR tX8_ask_53, ax_callV0 tX8_ask_56, ax_iload_n tX8_ask_59, ax_iload_n tX8_ask_60, ax_iload_n tX8_ask_61, ax_aload_n tX8_ask_62, ax_getI tX8_ask_63, ax_astoreR tX8_ask_69, ax_astoreN tX8_ask_69, ax_iconst tX8_ask_71, ax_istore tX8_ask_72, ax_iload tX8_ask_74, ax_aload_n tX8_ask_76, ax_getI tX8_ask_77, ax_icmp_ge tX8_ask_80, ax_aload tX8_ask_83, ax_aload_n tX8_ask_85, ax_getR tX8_ask_86, ax_iload tX8_ask_89, ax_iaload tX8_ask_91, ax_callV1 tX8_ask_92, ax_iinc tX8_ask_95, ax_goto tX8_ask_98, ax_aload_n tX8_ask_101, ax_iconst tX8_ask_102, ax_putI tX8_ask_103, ax_aload tX8_ask_106, ax_aload_n tX8_ask_108, ax_aload tX8_ask_109, ax_callV1 tX8_ask_111, ax_putI tX8_ask_114, ax_aload_n tX8_ask_117, ax_getR tX8_ask_118, ax_aload tX8_ask_121, ax_callV1 tX8_ask_123, ax_pop tX8_ask_126, ax_aload tX8_ask_127, ax_getI tX8_ask_129, ax_iretI tX8_ask_132, f_0, f_1, f_83, f_94, f_190, f_194]
    exact h0 (fun ⟨i, u, w, e, hi, _⟩ => c i hi e)
  subst e
  refine gAx (cut := []) okX8_ask 60 ?_
  simp only [axC_nil, axC_hit, axC_def, cutAt, lvLive, Option.isSome_none, Option.isSome_some, catS, lvGet, lvIns, lvSet1, lvSet2, gLit_0, gLit_1, lv_args, fv0, fv1, fv2, fv3, isI_s, isL_s, isRf_s, isRf_n, gtI_s, gtL_s, gtV_s, gFilter_nil, gFilter_cons, gL1, gL2, gL3, gL4, gL5, va_rf_s, va_rf_n, hK_sI, hK_sR, hK_sA, hK_sJ, hK_sO, hI_sI, hI_sR, hI_sA, hI_sJ, hI_sO, hR_sI, hR_sR, hR_sA, hR_sJ, hR_sO, hN_sI, hN_sR, hN_sA, hN_sJ, hN_sO, hA_sI, hA_sR, hA_sA, hA_sJ, hA_sO, hJ_sI, hJ_sR, hJ_sA, hJ_sJ, hJ_sO, hO_sI, hO_sR, hO_sA, hO_sJ, hO_sO, up3_eq, up2_eq, List.map_cons, List.map_nil, List.sum_cons, List.sum_nil, List.nil_append, List.cons_append, Option.toList_some, Option.toList_none, true_and, and_true, if_true, if_false, and_self, true_or, or_true, or_false, false_or, false_and, and_false, not_true_eq_false, not_false_eq_true, forall_const, reduceCtorEq, implies_true, List.contains_cons, List.contains_nil, Bool.or_false, Bool.false_or, Bool.or_true, Bool.true_or, Bool.and_true, Bool.true_and, Bool.and_false, Bool.false_and, Bool.not_true, Bool.not_false, BEq.rfl, Bool.false_eq_true, Bool.true_eq_false, eq_self, ↓reduceIte, Nat.reduceAdd, Nat.reduceEqDiff, Nat.reduceBEq, Nat.reduceLT, Nat.reduceLeDiff, Nat.reduceSub, Nat.reduceMul, Nat.reduceBNe, List.append_nil, Nat.zero_le, Nat.zero_add, Nat.zero_ne_one, Nat.one_ne_zero, false_implies, true_implies, not_false_eq_true, ne_eq, upd_e, updL_e, bI_zo, nI0z, nI1o, nI1z, nI0o, nI0q, nI1q, nm1_lt, nm1_ge, ax_aload_n tX8_ask_0, ax_iload_n tX8_ask_1, ax_callV1 tX8_ask_2, ax_if_eq tX8_ask_5, ax_iload_n tX8_ask_8, ax_if_lt tX8_ask_9, ax_iload_n tX8_ask_12, ax_iload_n tX8_ask_13, ax_icmp_gt tX8_ask_14, ax_iload_n tX8_ask_17, ax_sipush tX8_ask_18, ax_icmp_le tX8_ask_21, ax_iconst tX8_ask_24, ax_iretI tX8_ask_25, ax_aload_n tX8_ask_26, ax_getI tX8_ask_27, ax_iconst tX8_ask_30, ax_icmp_gt tX8_ask_31, ax_aload_n tX8_ask_34, ax_getR tX8_ask_35, ax_callV0 tX8_ask_38, ax_bipush tX8_ask_41, ax_icmp_lt tX8_ask_43, ax_iconst tX8_ask_46, ax_iretI tX8_ask_47, ax_new tX8_ask_48, ax_dup tX8_ask_51, ax_aload_n tX8_ask_52, ax_getR tX8_ask_53, ax_callV0 tX8_ask_56, ax_iload_n tX8_ask_59, ax_iload_n tX8_ask_60, ax_iload_n tX8_ask_61, ax_aload_n tX8_ask_62, ax_getI tX8_ask_63, ax_astoreR tX8_ask_69, ax_astoreN tX8_ask_69, ax_iconst tX8_ask_71, ax_istore tX8_ask_72, ax_iload tX8_ask_74, ax_aload_n tX8_ask_76, ax_getI tX8_ask_77, ax_icmp_ge tX8_ask_80, ax_aload tX8_ask_83, ax_aload_n tX8_ask_85, ax_getR tX8_ask_86, ax_iload tX8_ask_89, ax_iaload tX8_ask_91, ax_callV1 tX8_ask_92, ax_iinc tX8_ask_95, ax_goto tX8_ask_98, ax_aload_n tX8_ask_101, ax_iconst tX8_ask_102, ax_putI tX8_ask_103, ax_aload tX8_ask_106, ax_aload_n tX8_ask_108, ax_aload tX8_ask_109, ax_callV1 tX8_ask_111, ax_putI tX8_ask_114, ax_aload_n tX8_ask_117, ax_getR tX8_ask_118, ax_aload tX8_ask_121, ax_callV1 tX8_ask_123, ax_pop tX8_ask_126, ax_aload tX8_ask_127, ax_getI tX8_ask_129, ax_iretI tX8_ask_132, f_0, f_1, f_83, f_94, f_190, f_194, c0, i44, r8, l8]
  rcases i_cases l with cl | ⟨u, hu, rfl⟩
  · simp only [cl, eq_self, true_or, or_true, or_false, false_or, true_and, and_true, false_and, and_false, and_self, or_self, forall_const, not_true_eq_false, not_false_eq_true, false_implies, implies_true, true_implies, ↓reduceIte, if_true, if_false, Nat.not_lt_zero, Nat.zero_le, Nat.le_refl, Nat.lt_irrefl, ne_eq, reduceCtorEq, Bool.false_eq_true]
    exact h0 (fun ⟨i, u, w, e, hi, el, ek, huw, hw, _⟩ => nI_pos (n := u) (by omega) (by rw [← el]; exact cl))
  rcases i_cases k with ck | ⟨w, hw, rfl⟩
  · have c6 : k < nI u := Int32.lt_of_lt_of_le ck (nI_nn hu)
    simp only [show ¬ nI u < 0 from nI_pos hu, c6, eq_self, true_or, or_true, or_false, false_or, true_and, and_true, false_and, and_false, and_self, or_self, forall_const, not_true_eq_false, not_false_eq_true, false_implies, implies_true, true_implies, ↓reduceIte, if_true, if_false, Nat.not_lt_zero, Nat.zero_le, Nat.le_refl, Nat.lt_irrefl, ne_eq, reduceCtorEq, Bool.false_eq_true]
    exact h0 (fun ⟨i, u, w, e, hi, el, ek, huw, hw, _⟩ => nI_pos (n := w) (by omega) (by rw [← ek]; exact ck))
  try simp (disch := omega) only [z0, o1, nI_add, pk_mul, nI_ltI, nI_leI, nI_eq, nI_clamp, vpn, pk_sub, Nat.add_sub_cancel, bI_0, bI_1, eq_self, true_or, or_true, or_false, false_or, true_and, and_true, false_and, and_false, and_self, or_self, forall_const, not_true_eq_false, not_false_eq_true, false_implies, implies_true, true_implies, ↓reduceIte, if_true, if_false, Nat.not_lt_zero, Nat.zero_le, Nat.le_refl, Nat.lt_irrefl, ne_eq, reduceCtorEq, Bool.false_eq_true]
  have no : ¬ (u ≤ w ∧ w ≤ 4999 ∧ s 44 ≤ 4 ∧ s 46 < 20) → Q (some (.int (-nI 1))) h := fun c => h0 (fun ⟨i', u', w', e, hi', el, ek, huw, hw', h4, h5⟩ => c (by
    rw [nI_eq (by omega) (by omega)] at el ek
    omega))
  refine ⟨fun c => no (by omega), fun c1 => ⟨fun c2 => ⟨fun c3 => no (by omega), fun c3 => ?_⟩, fun c2 => no (by omega)⟩⟩
  have c3 := Nat.not_lt.mp c3
  refine j_size (d := d + 6) dl.2.2.2.1 ?_
  refine gAx (cut := [(51, [0, 1, 2, 3])]) okX8_ask 60 ?_
  simp only [axC_nil, axC_hit, axC_def, cutAt, lvLive, Option.isSome_none, Option.isSome_some, catS, lvGet, lvIns, lvSet1, lvSet2, gLit_0, gLit_1, lv_args, fv0, fv1, fv2, fv3, isI_s, isL_s, isRf_s, isRf_n, gtI_s, gtL_s, gtV_s, gFilter_nil, gFilter_cons, gL1, gL2, gL3, gL4, gL5, va_rf_s, va_rf_n, hK_sI, hK_sR, hK_sA, hK_sJ, hK_sO, hI_sI, hI_sR, hI_sA, hI_sJ, hI_sO, hR_sI, hR_sR, hR_sA, hR_sJ, hR_sO, hN_sI, hN_sR, hN_sA, hN_sJ, hN_sO, hA_sI, hA_sR, hA_sA, hA_sJ, hA_sO, hJ_sI, hJ_sR, hJ_sA, hJ_sJ, hJ_sO, hO_sI, hO_sR, hO_sA, hO_sJ, hO_sO, up3_eq, up2_eq, List.map_cons, List.map_nil, List.sum_cons, List.sum_nil, List.nil_append, List.cons_append, Option.toList_some, Option.toList_none, true_and, and_true, if_true, if_false, and_self, true_or, or_true, or_false, false_or, false_and, and_false, not_true_eq_false, not_false_eq_true, forall_const, reduceCtorEq, implies_true, List.contains_cons, List.contains_nil, Bool.or_false, Bool.false_or, Bool.or_true, Bool.true_or, Bool.and_true, Bool.true_and, Bool.and_false, Bool.false_and, Bool.not_true, Bool.not_false, BEq.rfl, Bool.false_eq_true, Bool.true_eq_false, eq_self, ↓reduceIte, Nat.reduceAdd, Nat.reduceEqDiff, Nat.reduceBEq, Nat.reduceLT, Nat.reduceLeDiff, Nat.reduceSub, Nat.reduceMul, Nat.reduceBNe, List.append_nil, Nat.zero_le, Nat.zero_add, Nat.zero_ne_one, Nat.one_ne_zero, false_implies, true_implies, not_false_eq_true, ne_eq, upd_e, updL_e, bI_zo, nI0z, nI1o, nI1z, nI0o, nI0q, nI1q, nm1_lt, nm1_ge, ax_aload_n tX8_ask_0, ax_iload_n tX8_ask_1, ax_callV1 tX8_ask_2, ax_if_eq tX8_ask_5, ax_iload_n tX8_ask_8, ax_if_lt tX8_ask_9, ax_iload_n tX8_ask_12, ax_iload_n tX8_ask_13, ax_icmp_gt tX8_ask_14, ax_iload_n tX8_ask_17, ax_sipush tX8_ask_18, ax_icmp_le tX8_ask_21, ax_iconst tX8_ask_24, ax_iretI tX8_ask_25, ax_aload_n tX8_ask_26, ax_getI tX8_ask_27, ax_iconst tX8_ask_30, ax_icmp_gt tX8_ask_31, ax_aload_n tX8_ask_34, ax_getR tX8_ask_35, ax_callV0 tX8_ask_38, ax_bipush tX8_ask_41, ax_icmp_lt tX8_ask_43, ax_iconst tX8_ask_46, ax_iretI tX8_ask_47, ax_new tX8_ask_48, ax_dup tX8_ask_51, ax_aload_n tX8_ask_52, ax_getR tX8_ask_53, ax_callV0 tX8_ask_56, ax_iload_n tX8_ask_59, ax_iload_n tX8_ask_60, ax_iload_n tX8_ask_61, ax_aload_n tX8_ask_62, ax_getI tX8_ask_63, ax_astoreR tX8_ask_69, ax_astoreN tX8_ask_69, ax_iconst tX8_ask_71, ax_istore tX8_ask_72, ax_iload tX8_ask_74, ax_aload_n tX8_ask_76, ax_getI tX8_ask_77, ax_icmp_ge tX8_ask_80, ax_aload tX8_ask_83, ax_aload_n tX8_ask_85, ax_getR tX8_ask_86, ax_iload tX8_ask_89, ax_iaload tX8_ask_91, ax_callV1 tX8_ask_92, ax_iinc tX8_ask_95, ax_goto tX8_ask_98, ax_aload_n tX8_ask_101, ax_iconst tX8_ask_102, ax_putI tX8_ask_103, ax_aload tX8_ask_106, ax_aload_n tX8_ask_108, ax_aload tX8_ask_109, ax_callV1 tX8_ask_111, ax_putI tX8_ask_114, ax_aload_n tX8_ask_117, ax_getR tX8_ask_118, ax_aload tX8_ask_121, ax_callV1 tX8_ask_123, ax_pop tX8_ask_126, ax_aload tX8_ask_127, ax_getI tX8_ask_129, ax_iretI tX8_ask_132, f_0, f_1, f_83, f_94, f_190, f_194, gn_1]
  try simp (disch := omega) only [z0, o1, nI_add, pk_mul, nI_ltI, nI_leI, nI_eq, nI_clamp, vpn, pk_sub, Nat.add_sub_cancel, bI_0, bI_1, eq_self, true_or, or_true, or_false, false_or, true_and, and_true, false_and, and_false, and_self, or_self, forall_const, not_true_eq_false, not_false_eq_true, false_implies, implies_true, true_implies, ↓reduceIte, if_true, if_false, Nat.not_lt_zero, Nat.zero_le, Nat.le_refl, Nat.lt_irrefl, ne_eq, reduceCtorEq, Bool.false_eq_true]
  refine ⟨fun _ => ?_, fun c => no (by omega)⟩
  intro x hx
  have f1 : ∀ (ow : Nat → gTag) T, FRO ow T h (nO h 1 x) := fun ow T => (FRO.rf h).nO hx
  have D1 := hd.scr wp (f1 ow (scT v))
  have kx : hK (nO h 1 x) x = 2 := by rw [hK_nO, va_up_eq, if_pos rfl]
  have c01 := D1.2.1.1
  have r81 : hR (nO h 1 x) 9 8 (Y 0 0 0) = some (Y 0 8 0) := D1.2.1.2.2.2.2.1.2.2.2.2.2.1
  have l81 := D1.2.2.2.2.2.1.2.2.2.1.1
  have i241 := D1.2.1.2.1
  refine gAx (cut := [(66, [0])]) okX8_ask 60 ?_
  simp only [axC_nil, axC_hit, axC_def, cutAt, lvLive, Option.isSome_none, Option.isSome_some, catS, lvGet, lvIns, lvSet1, lvSet2, gLit_0, gLit_1, lv_args, fv0, fv1, fv2, fv3, isI_s, isL_s, isRf_s, isRf_n, gtI_s, gtL_s, gtV_s, gFilter_nil, gFilter_cons, gL1, gL2, gL3, gL4, gL5, va_rf_s, va_rf_n, hK_sI, hK_sR, hK_sA, hK_sJ, hK_sO, hI_sI, hI_sR, hI_sA, hI_sJ, hI_sO, hR_sI, hR_sR, hR_sA, hR_sJ, hR_sO, hN_sI, hN_sR, hN_sA, hN_sJ, hN_sO, hA_sI, hA_sR, hA_sA, hA_sJ, hA_sO, hJ_sI, hJ_sR, hJ_sA, hJ_sJ, hJ_sO, hO_sI, hO_sR, hO_sA, hO_sJ, hO_sO, up3_eq, up2_eq, List.map_cons, List.map_nil, List.sum_cons, List.sum_nil, List.nil_append, List.cons_append, Option.toList_some, Option.toList_none, true_and, and_true, if_true, if_false, and_self, true_or, or_true, or_false, false_or, false_and, and_false, not_true_eq_false, not_false_eq_true, forall_const, reduceCtorEq, implies_true, List.contains_cons, List.contains_nil, Bool.or_false, Bool.false_or, Bool.or_true, Bool.true_or, Bool.and_true, Bool.true_and, Bool.and_false, Bool.false_and, Bool.not_true, Bool.not_false, BEq.rfl, Bool.false_eq_true, Bool.true_eq_false, eq_self, ↓reduceIte, Nat.reduceAdd, Nat.reduceEqDiff, Nat.reduceBEq, Nat.reduceLT, Nat.reduceLeDiff, Nat.reduceSub, Nat.reduceMul, Nat.reduceBNe, List.append_nil, Nat.zero_le, Nat.zero_add, Nat.zero_ne_one, Nat.one_ne_zero, false_implies, true_implies, not_false_eq_true, ne_eq, upd_e, updL_e, bI_zo, nI0z, nI1o, nI1z, nI0o, nI0q, nI1q, nm1_lt, nm1_ge, ax_aload_n tX8_ask_0, ax_iload_n tX8_ask_1, ax_callV1 tX8_ask_2, ax_if_eq tX8_ask_5, ax_iload_n tX8_ask_8, ax_if_lt tX8_ask_9, ax_iload_n tX8_ask_12, ax_iload_n tX8_ask_13, ax_icmp_gt tX8_ask_14, ax_iload_n tX8_ask_17, ax_sipush tX8_ask_18, ax_icmp_le tX8_ask_21, ax_iconst tX8_ask_24, ax_iretI tX8_ask_25, ax_aload_n tX8_ask_26, ax_getI tX8_ask_27, ax_iconst tX8_ask_30, ax_icmp_gt tX8_ask_31, ax_aload_n tX8_ask_34, ax_getR tX8_ask_35, ax_callV0 tX8_ask_38, ax_bipush tX8_ask_41, ax_icmp_lt tX8_ask_43, ax_iconst tX8_ask_46, ax_iretI tX8_ask_47, ax_new tX8_ask_48, ax_dup tX8_ask_51, ax_aload_n tX8_ask_52, ax_getR tX8_ask_53, ax_callV0 tX8_ask_56, ax_iload_n tX8_ask_59, ax_iload_n tX8_ask_60, ax_iload_n tX8_ask_61, ax_aload_n tX8_ask_62, ax_getI tX8_ask_63, ax_astoreR tX8_ask_69, ax_astoreN tX8_ask_69, ax_iconst tX8_ask_71, ax_istore tX8_ask_72, ax_iload tX8_ask_74, ax_aload_n tX8_ask_76, ax_getI tX8_ask_77, ax_icmp_ge tX8_ask_80, ax_aload tX8_ask_83, ax_aload_n tX8_ask_85, ax_getR tX8_ask_86, ax_iload tX8_ask_89, ax_iaload tX8_ask_91, ax_callV1 tX8_ask_92, ax_iinc tX8_ask_95, ax_goto tX8_ask_98, ax_aload_n tX8_ask_101, ax_iconst tX8_ask_102, ax_putI tX8_ask_103, ax_aload tX8_ask_106, ax_aload_n tX8_ask_108, ax_aload tX8_ask_109, ax_callV1 tX8_ask_111, ax_putI tX8_ask_114, ax_aload_n tX8_ask_117, ax_getR tX8_ask_118, ax_aload tX8_ask_121, ax_callV1 tX8_ask_123, ax_pop tX8_ask_126, ax_aload tX8_ask_127, ax_getI tX8_ask_129, ax_iretI tX8_ask_132, f_0, f_1, f_83, f_94, f_190, f_194, c01, r81, l81]
  refine j_size (d := d + 6) D1.2.2.2.2.2.1.2.2.2.1 ?_
  refine gAx (cut := [(66, [0])]) okX8_ask 60 ?_
  simp only [axC_nil, axC_hit, axC_def, cutAt, lvLive, Option.isSome_none, Option.isSome_some, catS, lvGet, lvIns, lvSet1, lvSet2, gLit_0, gLit_1, lv_args, fv0, fv1, fv2, fv3, isI_s, isL_s, isRf_s, isRf_n, gtI_s, gtL_s, gtV_s, gFilter_nil, gFilter_cons, gL1, gL2, gL3, gL4, gL5, va_rf_s, va_rf_n, hK_sI, hK_sR, hK_sA, hK_sJ, hK_sO, hI_sI, hI_sR, hI_sA, hI_sJ, hI_sO, hR_sI, hR_sR, hR_sA, hR_sJ, hR_sO, hN_sI, hN_sR, hN_sA, hN_sJ, hN_sO, hA_sI, hA_sR, hA_sA, hA_sJ, hA_sO, hJ_sI, hJ_sR, hJ_sA, hJ_sJ, hJ_sO, hO_sI, hO_sR, hO_sA, hO_sJ, hO_sO, up3_eq, up2_eq, List.map_cons, List.map_nil, List.sum_cons, List.sum_nil, List.nil_append, List.cons_append, Option.toList_some, Option.toList_none, true_and, and_true, if_true, if_false, and_self, true_or, or_true, or_false, false_or, false_and, and_false, not_true_eq_false, not_false_eq_true, forall_const, reduceCtorEq, implies_true, List.contains_cons, List.contains_nil, Bool.or_false, Bool.false_or, Bool.or_true, Bool.true_or, Bool.and_true, Bool.true_and, Bool.and_false, Bool.false_and, Bool.not_true, Bool.not_false, BEq.rfl, Bool.false_eq_true, Bool.true_eq_false, eq_self, ↓reduceIte, Nat.reduceAdd, Nat.reduceEqDiff, Nat.reduceBEq, Nat.reduceLT, Nat.reduceLeDiff, Nat.reduceSub, Nat.reduceMul, Nat.reduceBNe, List.append_nil, Nat.zero_le, Nat.zero_add, Nat.zero_ne_one, Nat.one_ne_zero, false_implies, true_implies, not_false_eq_true, ne_eq, upd_e, updL_e, bI_zo, nI0z, nI1o, nI1z, nI0o, nI0q, nI1q, nm1_lt, nm1_ge, ax_aload_n tX8_ask_0, ax_iload_n tX8_ask_1, ax_callV1 tX8_ask_2, ax_if_eq tX8_ask_5, ax_iload_n tX8_ask_8, ax_if_lt tX8_ask_9, ax_iload_n tX8_ask_12, ax_iload_n tX8_ask_13, ax_icmp_gt tX8_ask_14, ax_iload_n tX8_ask_17, ax_sipush tX8_ask_18, ax_icmp_le tX8_ask_21, ax_iconst tX8_ask_24, ax_iretI tX8_ask_25, ax_aload_n tX8_ask_26, ax_getI tX8_ask_27, ax_iconst tX8_ask_30, ax_icmp_gt tX8_ask_31, ax_aload_n tX8_ask_34, ax_getR tX8_ask_35, ax_callV0 tX8_ask_38, ax_bipush tX8_ask_41, ax_icmp_lt tX8_ask_43, ax_iconst tX8_ask_46, ax_iretI tX8_ask_47, ax_new tX8_ask_48, ax_dup tX8_ask_51, ax_aload_n tX8_ask_52, ax_getR tX8_ask_53, ax_callV0 tX8_ask_56, ax_iload_n tX8_ask_59, ax_iload_n tX8_ask_60, ax_iload_n tX8_ask_61, ax_aload_n tX8_ask_62, ax_getI tX8_ask_63, ax_astoreR tX8_ask_69, ax_astoreN tX8_ask_69, ax_iconst tX8_ask_71, ax_istore tX8_ask_72, ax_iload tX8_ask_74, ax_aload_n tX8_ask_76, ax_getI tX8_ask_77, ax_icmp_ge tX8_ask_80, ax_aload tX8_ask_83, ax_aload_n tX8_ask_85, ax_getR tX8_ask_86, ax_iload tX8_ask_89, ax_iaload tX8_ask_91, ax_callV1 tX8_ask_92, ax_iinc tX8_ask_95, ax_goto tX8_ask_98, ax_aload_n tX8_ask_101, ax_iconst tX8_ask_102, ax_putI tX8_ask_103, ax_aload tX8_ask_106, ax_aload_n tX8_ask_108, ax_aload tX8_ask_109, ax_callV1 tX8_ask_111, ax_putI tX8_ask_114, ax_aload_n tX8_ask_117, ax_getR tX8_ask_118, ax_aload tX8_ask_121, ax_callV1 tX8_ask_123, ax_pop tX8_ask_126, ax_aload tX8_ask_127, ax_getI tX8_ask_129, ax_iretI tX8_ask_132, f_0, f_1, f_83, f_94, f_190, f_194, c01, i241]
  refine gG_wd (c' := 1 + 1) (n' := 4 + 460) (by omega) (by omega) ?_
  refine gG_callI (f := mX0_init) (okMb_I (gMs_at (r := 0) (by decide)) (by decide)) (gDec okX8_ask tX8_ask_66) (gMem (i := 699) rfl rfl) (c1 := 1) (n1 := 4) (c := 1) (n := 460) (As := [.int (nI (s 46)), .int (nI i), .int (nI u), .int (nI w), .int (nI (s 24))]) (rest := [.ref x]) (d1 := d + 6 + 1) (d := d + 8) rfl (by simp [Value.category]) (by omega) ?_
  refine x_ask_init (d := d + 6) kx (by omega) (by omega) (by omega) (by omega) (by omega) (fun z h2 hz z5 f2 ak2 => ?_)
  have hx0 : hK h (z 0) = 0 := by rw [hz]; exact hx
  have hz5 : hK h (z 5) = 0 := by
    by_cases q : z 5 = x
    · rw [q]; exact hx
    · rw [hK_nO, va_up_eq, if_neg q] at z5; exact z5
  have z5x : z 5 ≠ x := fun q => by rw [q, kx] at z5; omega
  generalize hw1 : va_up (va_up ow x (5, s 46, 0)) (z 5) (5, s 46, 5) = ow1
  have own1 : OWN Y ow1 h s a := by rw [← hw1]; exact (own.add hx).add hz5
  have o1x : ow1 x = (5, s 46, 0) := by rw [← hw1, va_up_eq, if_neg (fun q => z5x q.symm), va_up_eq, if_pos rfl]
  have o15 : ow1 (z 5) = (5, s 46, 5) := by rw [← hw1, va_up_eq, if_pos rfl]
  have o1o : ∀ b, hK h b ≠ 0 → ow1 b = ow b := fun b hb => by rw [← hw1, va_up_eq, if_neg (fun q => hb (by rw [q]; exact hz5)), va_up_eq, if_neg (fun q => hb (by rw [q]; exact hx))]
  have o10 := (own1 0 0 0 (And.intro (by omega) (by omega))).2
  have F2 : FRO ow1 [(5, s 46, 0), (5, s 46, 5), (0, 0, 0)] h h2 := (f1 ow1 _).t2 (f2 ow1 _ (by simp [o1x]))
  have D3 : ∀ h3, FRM [(1, 6, x)] [(12, z 5)] h2 h3 → FRO ow1 [(5, s 46, 0), (5, s 46, 5), (0, 0, 0)] h h3 := fun h3 f3 => F2.t2 (f3.fro (by simp [o1x, o15]))
  have D3' : ∀ h3, FRM [(1, 6, x)] [(12, z 5)] h2 h3 → FRO ow1 [(5, s 46, 0), (5, s 46, 5)] h h3 := fun h3 f3 => ((f1 ow1 _).t2 (f2 ow1 _ (by simp [o1x]))).t2 (f3.fro (by simp [o1x, o15]))
  have dtk := dt
  refine gAx (cut := [(74, [0, 4, 5])]) okX8_ask 60 ?_
  simp only [axC_nil, axC_hit, axC_def, cutAt, lvLive, Option.isSome_none, Option.isSome_some, catS, lvGet, lvIns, lvSet1, lvSet2, gLit_0, gLit_1, lv_args, fv0, fv1, fv2, fv3, isI_s, isL_s, isRf_s, isRf_n, gtI_s, gtL_s, gtV_s, gFilter_nil, gFilter_cons, gL1, gL2, gL3, gL4, gL5, va_rf_s, va_rf_n, hK_sI, hK_sR, hK_sA, hK_sJ, hK_sO, hI_sI, hI_sR, hI_sA, hI_sJ, hI_sO, hR_sI, hR_sR, hR_sA, hR_sJ, hR_sO, hN_sI, hN_sR, hN_sA, hN_sJ, hN_sO, hA_sI, hA_sR, hA_sA, hA_sJ, hA_sO, hJ_sI, hJ_sR, hJ_sA, hJ_sJ, hJ_sO, hO_sI, hO_sR, hO_sA, hO_sJ, hO_sO, up3_eq, up2_eq, List.map_cons, List.map_nil, List.sum_cons, List.sum_nil, List.nil_append, List.cons_append, Option.toList_some, Option.toList_none, true_and, and_true, if_true, if_false, and_self, true_or, or_true, or_false, false_or, false_and, and_false, not_true_eq_false, not_false_eq_true, forall_const, reduceCtorEq, implies_true, List.contains_cons, List.contains_nil, Bool.or_false, Bool.false_or, Bool.or_true, Bool.true_or, Bool.and_true, Bool.true_and, Bool.and_false, Bool.false_and, Bool.not_true, Bool.not_false, BEq.rfl, Bool.false_eq_true, Bool.true_eq_false, eq_self, ↓reduceIte, Nat.reduceAdd, Nat.reduceEqDiff, Nat.reduceBEq, Nat.reduceLT, Nat.reduceLeDiff, Nat.reduceSub, Nat.reduceMul, Nat.reduceBNe, List.append_nil, Nat.zero_le, Nat.zero_add, Nat.zero_ne_one, Nat.one_ne_zero, false_implies, true_implies, not_false_eq_true, ne_eq, upd_e, updL_e, bI_zo, nI0z, nI1o, nI1z, nI0o, nI0q, nI1q, nm1_lt, nm1_ge, ax_aload_n tX8_ask_0, ax_iload_n tX8_ask_1, ax_callV1 tX8_ask_2, ax_if_eq tX8_ask_5, ax_iload_n tX8_ask_8, ax_if_lt tX8_ask_9, ax_iload_n tX8_ask_12, ax_iload_n tX8_ask_13, ax_icmp_gt tX8_ask_14, ax_iload_n tX8_ask_17, ax_sipush tX8_ask_18, ax_icmp_le tX8_ask_21, ax_iconst tX8_ask_24, ax_iretI tX8_ask_25, ax_aload_n tX8_ask_26, ax_getI tX8_ask_27, ax_iconst tX8_ask_30, ax_icmp_gt tX8_ask_31, ax_aload_n tX8_ask_34, ax_getR tX8_ask_35, ax_callV0 tX8_ask_38, ax_bipush tX8_ask_41, ax_icmp_lt tX8_ask_43, ax_iconst tX8_ask_46, ax_iretI tX8_ask_47, ax_new tX8_ask_48, ax_dup tX8_ask_51, ax_aload_n tX8_ask_52, ax_getR tX8_ask_53, ax_callV0 tX8_ask_56, ax_iload_n tX8_ask_59, ax_iload_n tX8_ask_60, ax_iload_n tX8_ask_61, ax_aload_n tX8_ask_62, ax_getI tX8_ask_63, ax_astoreR tX8_ask_69, ax_astoreN tX8_ask_69, ax_iconst tX8_ask_71, ax_istore tX8_ask_72, ax_iload tX8_ask_74, ax_aload_n tX8_ask_76, ax_getI tX8_ask_77, ax_icmp_ge tX8_ask_80, ax_aload tX8_ask_83, ax_aload_n tX8_ask_85, ax_getR tX8_ask_86, ax_iload tX8_ask_89, ax_iaload tX8_ask_91, ax_callV1 tX8_ask_92, ax_iinc tX8_ask_95, ax_goto tX8_ask_98, ax_aload_n tX8_ask_101, ax_iconst tX8_ask_102, ax_putI tX8_ask_103, ax_aload tX8_ask_106, ax_aload_n tX8_ask_108, ax_aload tX8_ask_109, ax_callV1 tX8_ask_111, ax_putI tX8_ask_114, ax_aload_n tX8_ask_117, ax_getR tX8_ask_118, ax_aload tX8_ask_121, ax_callV1 tX8_ask_123, ax_pop tX8_ask_126, ax_aload tX8_ask_127, ax_getI tX8_ask_129, ax_iretI tX8_ask_132, f_0, f_1, f_83, f_94, f_190, f_194]
  have w45 := wp.2.2.2.2.2.2.2
  refine x_ask_loop (s := s) (a := a) (Y := Y) (d := d + 6) (h0 := h2) (z := z) (V := akI (s 46) i u w (s 24)) (fun h3 f3 => ?_) c3 (fun k hk => by have := w45 k hk; omega) hz (fun h3 f3 ak3 => ?_) (s 44) 0 h2 (by omega) (FRM.rf h2) ?_
  · have m0 := own1.sam (D3' h3 f3) (r := 0) (i := 0) (k := 0) (And.intro (by omega) (by omega)) (by simp)
    have m3 := own1.sam (D3' h3 f3) (r := 0) (i := 3) (k := 0) (And.intro (by omega) (by omega)) (by simp)
    exact ⟨by rw [m0.1]; exact c0, by rw [m0.2.2.1]; exact i44, by rw [m0.2.2.2.1]; exact r3, by rw [m3.1]; exact dtk.1, by rw [m3.2.1]; exact dtk.2.1, fun k hk => by rw [m3.2.2.2.2.1]; exact dtk.2.2 k hk⟩
  · have F3 := D3 h3 f3
    have F3' := D3' h3 f3
    have m0 := own1.sam F3' (r := 0) (i := 0) (k := 0) (And.intro (by omega) (by omega)) (by simp)
    have c03 : hK h3 (Y 0 0 0) = 10 := by rw [m0.1]; exact c0
    have kx3 : hK h3 x = 2 := by rw [← hz]; exact ak3.1.1
    generalize hh4 : sI h3 9 4 (Y 0 0 0) (nI 0) = h4
    have F4 : FRO ow1 [(5, s 46, 0), (5, s 46, 5), (0, 0, 0)] h h4 := by rw [← hh4]; exact F3.sI (Or.inl (by simp [o10]))
    have ak4 : ASK h4 z (va_up (akI (s 46) i u w (s 24)) 6 (s 44)) (fun k => if k < s 44 then a 45 k else 0) := by
      have : FRM [(9, 4, Y 0 0 0)] [] h3 h4 := by rw [← hh4]; exact (FRM.rf h3).sI (by simp)
      exact ak3.A this.fra (by simp) (by simp) (by simp)
    have D4 : DS E Y ow1 v rl h4 (va_up s 44 0) a := by
      have own := own1
      have hf := F4
      have own4 : OWN Y ow1 h4 (va_up s 44 0) a := own1.F F4
      have d04 : D0 Y v h4 (va_up s 44 0) a := by
        have q : D0 Y v h3 s a := D0.K own1 F3' (by simp) ⟨rfl, rfl, rfl⟩ ⟨rfl, rfl, rfl⟩ (fun _ _ => rfl) d0
        obtain ⟨c0, i24, i25, i44, ⟨r1, r3, r5, r6, r7, r8, r9⟩, ⟨r11, r12, r13⟩, hm, hm1, hm2, hm3⟩ := q
        rw [← hh4]
        refine ⟨c0, ?_, ?_, ?_, ⟨r1, r3, r5, r6, r7, r8, r9⟩, ⟨r11, r12, r13⟩, hm, hm1, ?_, hm3⟩ <;> simp [hI_sI, up3_eq, va_up_eq, i24, i25, hm2]
      have dt4 : DT Y h4 (va_up s 44 0) a := DT.K own hf (by simp) rfl (Nat.zero_le _) (fun _ => rfl) dt
      have da4 : DA Y h4 (va_up s 44 0) a := fun b hb => DA.K own hf hb (by have hb : b < s 46 := hb; simp; omega) (fun _ => rfl) ⟨Nat.le_refl _, rfl⟩ ⟨rfl, rfl, rfl, rfl, rfl, rfl, rfl, fun _ _ => rfl, fun _ _ => rfl⟩ (da b hb)
      exact ⟨own4, (d04), (DF.K own hf (by simp) rfl rfl (fun _ => rfl) df), (dt4), (DB.K own hf rfl db), ⟨DL1.K (n := s 27) own hf (by omega) (by simp) (by simp) (fun i hi => (And.intro (by omega) (by omega))) (fun hn => (And.intro (by omega) (by omega))) rfl rfl (fun _ _ => rfl) dl.1, DL1.K (n := s 31) own hf (by omega) (by simp) (by simp) (fun i hi => (And.intro (by omega) (by omega))) (fun hn => (And.intro (by omega) (by omega))) rfl rfl (fun _ _ => rfl) dl.2.1, DL1.K (n := s 36) own hf (by omega) (by simp) (by simp) (fun i hi => (And.intro (by omega) (by omega))) (fun hn => (And.intro (by omega) (by omega))) rfl rfl (fun _ _ => rfl) dl.2.2.1, DL1.K (n := s 46) own hf (by omega) (by simp) (by simp) (fun i hi => (And.intro (by omega) (by omega))) (fun hn => (And.intro (by omega) (by omega))) rfl rfl (fun _ _ => rfl) dl.2.2.2.1, DL1.K (n := s 57) own hf (by omega) (by simp) (by simp) (fun i hi => (And.intro (by omega) (by omega))) (fun hn => (And.intro (by omega) (by omega))) rfl rfl (fun _ _ => rfl) dl.2.2.2.2⟩, (fun p hp => DP.K own hf hp (by simp) ⟨fun _ => rfl, fun _ _ => rfl⟩ ⟨rfl, rfl, rfl, rfl, rfl⟩ (dp p hp)), (DG.K own wp hf (by simp) ⟨fun _ _ => rfl, fun _ _ => rfl, fun _ _ => rfl⟩ rfl (fun _ _ => ⟨rfl, rfl⟩) dg), (fun t ht => DX.K own hf ht (by simp) (fun _ => rfl) ⟨rfl, rfl, rfl, rfl, fun _ _ => rfl, fun _ _ => rfl, fun _ _ => rfl, fun _ _ => rfl, fun _ _ => rfl⟩ (dx t ht)), (da4), (fun i hi => DH.K own hf hi (by simp) (fun _ => rfl) ⟨rfl, rfl, rfl, rfl, fun _ _ => rfl⟩ (dh i hi)), (DU.K own hf (by simp) rfl rfl (fun _ => rfl) du), (DR.K own hf (by simp) rfl dr)⟩
    have c04 := D4.2.1.1
    have kx4 : hK h4 x = 2 := by rw [← hz]; exact ak4.1.1
    have r84 : hR h4 9 8 (Y 0 0 0) = some (Y 0 8 0) := D4.2.1.2.2.2.2.1.2.2.2.2.2.1
    have dl4 := D4.2.2.2.2.2.1.2.2.2.1
    have rle := rpV_le (smB (akV s a i u w) (s 46) i u w) (s 46) (s 46) (Nat.le_refl _)
    refine gAx (cut := []) okX8_ask 60 ?_
    simp only [axC_nil, axC_hit, axC_def, cutAt, lvLive, Option.isSome_none, Option.isSome_some, catS, lvGet, lvIns, lvSet1, lvSet2, gLit_0, gLit_1, lv_args, fv0, fv1, fv2, fv3, isI_s, isL_s, isRf_s, isRf_n, gtI_s, gtL_s, gtV_s, gFilter_nil, gFilter_cons, gL1, gL2, gL3, gL4, gL5, va_rf_s, va_rf_n, hK_sI, hK_sR, hK_sA, hK_sJ, hK_sO, hI_sI, hI_sR, hI_sA, hI_sJ, hI_sO, hR_sI, hR_sR, hR_sA, hR_sJ, hR_sO, hN_sI, hN_sR, hN_sA, hN_sJ, hN_sO, hA_sI, hA_sR, hA_sA, hA_sJ, hA_sO, hJ_sI, hJ_sR, hJ_sA, hJ_sJ, hJ_sO, hO_sI, hO_sR, hO_sA, hO_sJ, hO_sO, up3_eq, up2_eq, List.map_cons, List.map_nil, List.sum_cons, List.sum_nil, List.nil_append, List.cons_append, Option.toList_some, Option.toList_none, true_and, and_true, if_true, if_false, and_self, true_or, or_true, or_false, false_or, false_and, and_false, not_true_eq_false, not_false_eq_true, forall_const, reduceCtorEq, implies_true, List.contains_cons, List.contains_nil, Bool.or_false, Bool.false_or, Bool.or_true, Bool.true_or, Bool.and_true, Bool.true_and, Bool.and_false, Bool.false_and, Bool.not_true, Bool.not_false, BEq.rfl, Bool.false_eq_true, Bool.true_eq_false, eq_self, ↓reduceIte, Nat.reduceAdd, Nat.reduceEqDiff, Nat.reduceBEq, Nat.reduceLT, Nat.reduceLeDiff, Nat.reduceSub, Nat.reduceMul, Nat.reduceBNe, List.append_nil, Nat.zero_le, Nat.zero_add, Nat.zero_ne_one, Nat.one_ne_zero, false_implies, true_implies, not_false_eq_true, ne_eq, upd_e, updL_e, bI_zo, nI0z, nI1o, nI1z, nI0o, nI0q, nI1q, nm1_lt, nm1_ge, ax_aload_n tX8_ask_0, ax_iload_n tX8_ask_1, ax_callV1 tX8_ask_2, ax_if_eq tX8_ask_5, ax_iload_n tX8_ask_8, ax_if_lt tX8_ask_9, ax_iload_n tX8_ask_12, ax_iload_n tX8_ask_13, ax_icmp_gt tX8_ask_14, ax_iload_n tX8_ask_17, ax_sipush tX8_ask_18, ax_icmp_le tX8_ask_21, ax_iconst tX8_ask_24, ax_iretI tX8_ask_25, ax_aload_n tX8_ask_26, ax_getI tX8_ask_27, ax_iconst tX8_ask_30, ax_icmp_gt tX8_ask_31, ax_aload_n tX8_ask_34, ax_getR tX8_ask_35, ax_callV0 tX8_ask_38, ax_bipush tX8_ask_41, ax_icmp_lt tX8_ask_43, ax_iconst tX8_ask_46, ax_iretI tX8_ask_47, ax_new tX8_ask_48, ax_dup tX8_ask_51, ax_aload_n tX8_ask_52, ax_getR tX8_ask_53, ax_callV0 tX8_ask_56, ax_iload_n tX8_ask_59, ax_iload_n tX8_ask_60, ax_iload_n tX8_ask_61, ax_aload_n tX8_ask_62, ax_getI tX8_ask_63, ax_astoreR tX8_ask_69, ax_astoreN tX8_ask_69, ax_iconst tX8_ask_71, ax_istore tX8_ask_72, ax_iload tX8_ask_74, ax_aload_n tX8_ask_76, ax_getI tX8_ask_77, ax_icmp_ge tX8_ask_80, ax_aload tX8_ask_83, ax_aload_n tX8_ask_85, ax_getR tX8_ask_86, ax_iload tX8_ask_89, ax_iaload tX8_ask_91, ax_callV1 tX8_ask_92, ax_iinc tX8_ask_95, ax_goto tX8_ask_98, ax_aload_n tX8_ask_101, ax_iconst tX8_ask_102, ax_putI tX8_ask_103, ax_aload tX8_ask_106, ax_aload_n tX8_ask_108, ax_aload tX8_ask_109, ax_callV1 tX8_ask_111, ax_putI tX8_ask_114, ax_aload_n tX8_ask_117, ax_getR tX8_ask_118, ax_aload tX8_ask_121, ax_callV1 tX8_ask_123, ax_pop tX8_ask_126, ax_aload tX8_ask_127, ax_getI tX8_ask_129, ax_iretI tX8_ask_132, f_0, f_1, f_83, f_94, f_190, f_194, c03, hh4]
    refine ⟨c04, ?_⟩
    rw [← hz]
    refine x_leastSame (d := d + 3) D4 (WP_0 wp) h46 ak4 (smB (akV s a i u w) (s 46) i u w) (fun b sd wd hb => sm_K hb c3 (wa.2 b hb).2.2.2.1) ?_
    rw [hz]
    generalize hrp : rpV (smB (akV s a i u w) (s 46) i u w) (s 46) (s 46) = rp at rle
    have erp : (va_up s 44 0) 46 = s 46 := rfl
    try rw [erp, hrp]
    generalize hh5 : sI h4 1 7 x (sg rp) = h5
    have ak5 : ASK h5 z (va_up (va_up (akI (s 46) i u w (s 24)) 6 (s 44)) 7 rp) (fun k => if k < s 44 then a 45 k else 0) := by rw [← hh5, ← hz]; exact ak4.V7 (by omega)
    have F5 : FRO ow1 [(5, s 46, 0)] h4 h5 := by rw [← hh5]; exact (FRO.rf h4).sI (Or.inl (by simp [o1x]))
    have own4 := D4.1
    have m05 := own4.sam F5 (r := 0) (i := 0) (k := 0) (And.intro (by omega) (by omega)) (by simp)
    have c05 : hK h5 (Y 0 0 0) = 10 := by rw [m05.1]; exact c04
    have r85 : hR h5 9 8 (Y 0 0 0) = some (Y 0 8 0) := by rw [m05.2.2.2.1]; exact r84
    have kx5 : hK h5 x = 2 := by rw [← hz]; exact ak5.1.1
    have n05 : hI h5 1 0 x = nI (s 46) := by rw [← hz]; exact ak5.2.1.1
    have L5 : LST E h5 (Y 0 8 0) (Y 1 8 0) (s 46) 1 (fun i => Y 5 i 0) := DL1.K (n := s 46) own4 F5 (by omega) (by simp) (by simp) (fun i hi => And.intro (show i < s 46 by omega) (by omega)) (fun hn => And.intro rfl (by show _; omega)) rfl rfl (fun _ _ => rfl) dl4
    have l85 := L5.1
    generalize heo : (if s 46 = 0 then x else Y 1 8 0) = eo
    have L5' : LST E h5 (Y 0 8 0) eo (s 46) 1 (fun i => Y 5 i 0) := by
      rw [← heo]
      by_cases q : s 46 = 0
      · obtain ⟨a1, a2, a3, a4, a5, a6⟩ := L5
        exact ⟨a1, a2, a3, a4, fun c => absurd q c, fun i hi => by omega⟩
      · rw [if_neg q]; exact L5
    have gl := gs_le (s 46)
    refine gAx (cut := [(123, [4])]) okX8_ask 60 ?_
    simp only [axC_nil, axC_hit, axC_def, cutAt, lvLive, Option.isSome_none, Option.isSome_some, catS, lvGet, lvIns, lvSet1, lvSet2, gLit_0, gLit_1, lv_args, fv0, fv1, fv2, fv3, isI_s, isL_s, isRf_s, isRf_n, gtI_s, gtL_s, gtV_s, gFilter_nil, gFilter_cons, gL1, gL2, gL3, gL4, gL5, va_rf_s, va_rf_n, hK_sI, hK_sR, hK_sA, hK_sJ, hK_sO, hI_sI, hI_sR, hI_sA, hI_sJ, hI_sO, hR_sI, hR_sR, hR_sA, hR_sJ, hR_sO, hN_sI, hN_sR, hN_sA, hN_sJ, hN_sO, hA_sI, hA_sR, hA_sA, hA_sJ, hA_sO, hJ_sI, hJ_sR, hJ_sA, hJ_sJ, hJ_sO, hO_sI, hO_sR, hO_sA, hO_sJ, hO_sO, up3_eq, up2_eq, List.map_cons, List.map_nil, List.sum_cons, List.sum_nil, List.nil_append, List.cons_append, Option.toList_some, Option.toList_none, true_and, and_true, if_true, if_false, and_self, true_or, or_true, or_false, false_or, false_and, and_false, not_true_eq_false, not_false_eq_true, forall_const, reduceCtorEq, implies_true, List.contains_cons, List.contains_nil, Bool.or_false, Bool.false_or, Bool.or_true, Bool.true_or, Bool.and_true, Bool.true_and, Bool.and_false, Bool.false_and, Bool.not_true, Bool.not_false, BEq.rfl, Bool.false_eq_true, Bool.true_eq_false, eq_self, ↓reduceIte, Nat.reduceAdd, Nat.reduceEqDiff, Nat.reduceBEq, Nat.reduceLT, Nat.reduceLeDiff, Nat.reduceSub, Nat.reduceMul, Nat.reduceBNe, List.append_nil, Nat.zero_le, Nat.zero_add, Nat.zero_ne_one, Nat.one_ne_zero, false_implies, true_implies, not_false_eq_true, ne_eq, upd_e, updL_e, bI_zo, nI0z, nI1o, nI1z, nI0o, nI0q, nI1q, nm1_lt, nm1_ge, ax_aload_n tX8_ask_0, ax_iload_n tX8_ask_1, ax_callV1 tX8_ask_2, ax_if_eq tX8_ask_5, ax_iload_n tX8_ask_8, ax_if_lt tX8_ask_9, ax_iload_n tX8_ask_12, ax_iload_n tX8_ask_13, ax_icmp_gt tX8_ask_14, ax_iload_n tX8_ask_17, ax_sipush tX8_ask_18, ax_icmp_le tX8_ask_21, ax_iconst tX8_ask_24, ax_iretI tX8_ask_25, ax_aload_n tX8_ask_26, ax_getI tX8_ask_27, ax_iconst tX8_ask_30, ax_icmp_gt tX8_ask_31, ax_aload_n tX8_ask_34, ax_getR tX8_ask_35, ax_callV0 tX8_ask_38, ax_bipush tX8_ask_41, ax_icmp_lt tX8_ask_43, ax_iconst tX8_ask_46, ax_iretI tX8_ask_47, ax_new tX8_ask_48, ax_dup tX8_ask_51, ax_aload_n tX8_ask_52, ax_getR tX8_ask_53, ax_callV0 tX8_ask_56, ax_iload_n tX8_ask_59, ax_iload_n tX8_ask_60, ax_iload_n tX8_ask_61, ax_aload_n tX8_ask_62, ax_getI tX8_ask_63, ax_astoreR tX8_ask_69, ax_astoreN tX8_ask_69, ax_iconst tX8_ask_71, ax_istore tX8_ask_72, ax_iload tX8_ask_74, ax_aload_n tX8_ask_76, ax_getI tX8_ask_77, ax_icmp_ge tX8_ask_80, ax_aload tX8_ask_83, ax_aload_n tX8_ask_85, ax_getR tX8_ask_86, ax_iload tX8_ask_89, ax_iaload tX8_ask_91, ax_callV1 tX8_ask_92, ax_iinc tX8_ask_95, ax_goto tX8_ask_98, ax_aload_n tX8_ask_101, ax_iconst tX8_ask_102, ax_putI tX8_ask_103, ax_aload tX8_ask_106, ax_aload_n tX8_ask_108, ax_aload tX8_ask_109, ax_callV1 tX8_ask_111, ax_putI tX8_ask_114, ax_aload_n tX8_ask_117, ax_getR tX8_ask_118, ax_aload tX8_ask_121, ax_callV1 tX8_ask_123, ax_pop tX8_ask_126, ax_aload tX8_ask_127, ax_getI tX8_ask_129, ax_iretI tX8_ask_132, f_0, f_1, f_83, f_94, f_190, f_194, kx4, hh5, c05, r85, l85]
    refine gG_wd (c' := gc (s 46) + 0) (n' := gs (s 46) + 0) (by omega) (by omega) ?_
    refine gG_callV (f := mJx4a65c_add_9ea2d) (ci := 0) (okMb_V (gMs_at (r := 194) (by decide)) (by decide)) (gDec okX8_ask tX8_ask_123) (gMem (i := 299) rfl rfl) rfl (by decide) rfl (c1 := gc (s 46)) (n1 := gs (s 46)) (c := 0) (n := 0) (As := [.ref x]) (rest := []) (d1 := d + 7) (d := d + 8) l85 rfl (by simp) (by omega) ?_
    refine j_add (d := d) hX rfl (by omega) L5' kx5 (by omega) (fun h6 e6 f6 L6 he6 => ?_)
    have x6 : hI h6 1 0 x = nI (s 46) := by rw [f6.2.1 _ _ _ (by omega) (by simp)]; exact n05
    have kx6 : hK h6 x = 2 := by rw [(f6.1 x (by omega)).1]; exact kx5
    refine gAx (cut := []) okX8_ask 60 ?_
    simp only [axC_nil, axC_hit, axC_def, cutAt, lvLive, Option.isSome_none, Option.isSome_some, catS, lvGet, lvIns, lvSet1, lvSet2, gLit_0, gLit_1, lv_args, fv0, fv1, fv2, fv3, isI_s, isL_s, isRf_s, isRf_n, gtI_s, gtL_s, gtV_s, gFilter_nil, gFilter_cons, gL1, gL2, gL3, gL4, gL5, va_rf_s, va_rf_n, hK_sI, hK_sR, hK_sA, hK_sJ, hK_sO, hI_sI, hI_sR, hI_sA, hI_sJ, hI_sO, hR_sI, hR_sR, hR_sA, hR_sJ, hR_sO, hN_sI, hN_sR, hN_sA, hN_sJ, hN_sO, hA_sI, hA_sR, hA_sA, hA_sJ, hA_sO, hJ_sI, hJ_sR, hJ_sA, hJ_sJ, hJ_sO, hO_sI, hO_sR, hO_sA, hO_sJ, hO_sO, up3_eq, up2_eq, List.map_cons, List.map_nil, List.sum_cons, List.sum_nil, List.nil_append, List.cons_append, Option.toList_some, Option.toList_none, true_and, and_true, if_true, if_false, and_self, true_or, or_true, or_false, false_or, false_and, and_false, not_true_eq_false, not_false_eq_true, forall_const, reduceCtorEq, implies_true, List.contains_cons, List.contains_nil, Bool.or_false, Bool.false_or, Bool.or_true, Bool.true_or, Bool.and_true, Bool.true_and, Bool.and_false, Bool.false_and, Bool.not_true, Bool.not_false, BEq.rfl, Bool.false_eq_true, Bool.true_eq_false, eq_self, ↓reduceIte, Nat.reduceAdd, Nat.reduceEqDiff, Nat.reduceBEq, Nat.reduceLT, Nat.reduceLeDiff, Nat.reduceSub, Nat.reduceMul, Nat.reduceBNe, List.append_nil, Nat.zero_le, Nat.zero_add, Nat.zero_ne_one, Nat.one_ne_zero, false_implies, true_implies, not_false_eq_true, ne_eq, upd_e, updL_e, bI_zo, nI0z, nI1o, nI1z, nI0o, nI0q, nI1q, nm1_lt, nm1_ge, ax_aload_n tX8_ask_0, ax_iload_n tX8_ask_1, ax_callV1 tX8_ask_2, ax_if_eq tX8_ask_5, ax_iload_n tX8_ask_8, ax_if_lt tX8_ask_9, ax_iload_n tX8_ask_12, ax_iload_n tX8_ask_13, ax_icmp_gt tX8_ask_14, ax_iload_n tX8_ask_17, ax_sipush tX8_ask_18, ax_icmp_le tX8_ask_21, ax_iconst tX8_ask_24, ax_iretI tX8_ask_25, ax_aload_n tX8_ask_26, ax_getI tX8_ask_27, ax_iconst tX8_ask_30, ax_icmp_gt tX8_ask_31, ax_aload_n tX8_ask_34, ax_getR tX8_ask_35, ax_callV0 tX8_ask_38, ax_bipush tX8_ask_41, ax_icmp_lt tX8_ask_43, ax_iconst tX8_ask_46, ax_iretI tX8_ask_47, ax_new tX8_ask_48, ax_dup tX8_ask_51, ax_aload_n tX8_ask_52, ax_getR tX8_ask_53, ax_callV0 tX8_ask_56, ax_iload_n tX8_ask_59, ax_iload_n tX8_ask_60, ax_iload_n tX8_ask_61, ax_aload_n tX8_ask_62, ax_getI tX8_ask_63, ax_astoreR tX8_ask_69, ax_astoreN tX8_ask_69, ax_iconst tX8_ask_71, ax_istore tX8_ask_72, ax_iload tX8_ask_74, ax_aload_n tX8_ask_76, ax_getI tX8_ask_77, ax_icmp_ge tX8_ask_80, ax_aload tX8_ask_83, ax_aload_n tX8_ask_85, ax_getR tX8_ask_86, ax_iload tX8_ask_89, ax_iaload tX8_ask_91, ax_callV1 tX8_ask_92, ax_iinc tX8_ask_95, ax_goto tX8_ask_98, ax_aload_n tX8_ask_101, ax_iconst tX8_ask_102, ax_putI tX8_ask_103, ax_aload tX8_ask_106, ax_aload_n tX8_ask_108, ax_aload tX8_ask_109, ax_callV1 tX8_ask_111, ax_putI tX8_ask_114, ax_aload_n tX8_ask_117, ax_getR tX8_ask_118, ax_aload tX8_ask_121, ax_callV1 tX8_ask_123, ax_pop tX8_ask_126, ax_aload tX8_ask_127, ax_getI tX8_ask_129, ax_iretI tX8_ask_132, f_0, f_1, f_83, f_94, f_190, f_194, kx6, x6]
    have ak6 : ASK h6 z _ _ := ak5.A f6 (by simp) (by simp) (by simp)
    -- the new row of the list
    have o08 := (own4 0 8 0 (And.intro (by omega) (by omega))).2
    have oeo : ow1 eo = (1, 8, 0) ∨ ow1 eo = (5, s 46, 0) := by
      rw [← heo]
      by_cases q : s 46 = 0
      · rw [if_pos q]; exact Or.inr o1x
      · rw [if_neg q]; exact Or.inl (own4 1 8 0 (And.intro rfl (by show _; omega))).2
    have F6 : FRO ow1 [(5, s 46, 0), (0, 8, 0), (1, 8, 0)] h4 h6 := (F5.up (by simp)).t2 (f6.fro (fun y hy => by
      simp only [tch, List.map_cons, List.map_nil, List.cons_append, List.nil_append, List.append_nil, List.mem_cons, List.not_mem_nil, or_false] at hy
      rcases hy with rfl | rfl | rfl | rfl
      · simp [o08]
      · simp [o08]
      · simp [o08]
      · rcases oeo with q | q <;> simp [q]))
    have k45 : ∀ b, hK h b ≠ 0 → hK h5 b ≠ 0 := fun b hb => by
      have q4 := (F4.1 b hb).1
      rw [(F5.1 b (by omega)).1, q4]; exact hb
    have he6' : hK h6 e6 ≠ 0 ∧ (s 46 ≠ 0 ∧ e6 = Y 1 8 0 ∨ hK h5 e6 = 0) := by
      rcases he6 with ⟨q1, q2⟩ | ⟨q1, q2⟩
      · rw [← heo, if_neg q1] at q2
        have r1 := (own1 1 8 0 (And.intro rfl (by show _; omega))).1
        refine ⟨?_, Or.inl ⟨q1, q2⟩⟩
        rw [q2, (f6.1 _ (k45 _ r1)).1]; exact k45 _ r1
      · exact ⟨by omega, Or.inr q1⟩
    have ow6 : ∀ b, hK h5 b ≠ 0 → va_up ow1 e6 (1, 8, 0) b = ow1 b := fun b hb => by
      rw [va_up_eq]
      by_cases q : b = e6
      · rw [if_pos q]
        rcases he6'.2 with ⟨q1, q2⟩ | q1
        · rw [q, q2]; exact (own1 1 8 0 (And.intro rfl (by show _; omega))).2.symm
        · rw [q] at hb; exact absurd q1 hb
      · rw [if_neg q]
    refine h1 i u w h6 (fun r j k => if r = 5 ∧ j = s 46 then z k else if r = 1 ∧ j = 8 ∧ k = 0 then e6 else Y r j k) (va_up ow1 e6 (1, 8, 0)) rfl hi rfl rfl (by omega) (by omega) c3 (by omega) ?_ ?_ (fun b hb => by rw [ow6 b (k45 b hb)]; exact o1o b hb) rfl
    · generalize hY : (fun r j k => if r = 5 ∧ j = s 46 then z k else if r = 1 ∧ j = 8 ∧ k = 0 then e6 else Y r j k) = Y'
      have yo : ∀ r j k, ¬ (r = 5 ∧ j = s 46) → ¬ (r = 1 ∧ j = 8 ∧ k = 0) → Y' r j k = Y r j k := fun r j k q1 q2 => by rw [← hY]; simp only [if_neg q1, if_neg q2]
      have yz : ∀ k, Y' 5 (s 46) k = z k := fun k => by rw [← hY]; simp
      have ye : Y' 1 8 0 = e6 := by rw [← hY]; simp
      have yr : ∀ r, r ≠ 5 → r ≠ 1 → Y' r = Y r := fun r q1 q2 => by funext j k; exact yo r j k (by omega) (by omega)
      have own46 := own4.F F6
      have own6 : OWN Y' (va_up ow1 e6 (1, 8, 0)) h6 (va_up (va_up s 44 0) 46 (s 46 + 1)) (akE s a i u w) := by
        intro r j k hv
        have old : vld (va_up s 44 0) a r j k → ¬ (r = 5 ∧ j = s 46) → ¬ (r = 1 ∧ j = 8 ∧ k = 0) → hK h6 (Y' r j k) ≠ 0 ∧ va_up ow1 e6 (1, 8, 0) (Y' r j k) = (r, j, k) := fun hv q1 q2 => by
          rw [yo r j k q1 q2]
          have := own46 r j k hv
          refine ⟨this.1, ?_⟩
          rw [ow6 _ (by rw [(F5.1 _ (own4 r j k hv).1).1]; exact (own4 r j k hv).1)]
          exact this.2
        match r, hv with
        | 0, hv => exact old hv (by omega) (by omega)
        | 1, hv =>
          have ek : k = 0 := hv.1
          have hw : j = 5 ∧ 0 < s 27 ∨ j = 6 ∧ 0 < s 31 ∨ j = 7 ∧ 0 < s 36 ∨ j = 8 ∧ 0 < s 46 + 1 ∨ j = 9 ∧ 0 < s 57 := hv.2
          subst ek
          by_cases q : j = 8
          · subst q
            rw [ye]
            exact ⟨he6'.1, by rw [va_up_eq, if_pos rfl]⟩
          · refine old ⟨rfl, ?_⟩ (by omega) (by omega)
            rcases hw with p | p | p | p | p
            · exact Or.inl p
            · exact Or.inr (Or.inl p)
            · exact Or.inr (Or.inr (Or.inl p))
            · exact absurd p.1 q
            · exact Or.inr (Or.inr (Or.inr (Or.inr p)))
        | 2, hv => exact old hv (by omega) (by omega)
        | 3, hv => exact old hv (by omega) (by omega)
        | 4, hv => exact old hv (by omega) (by omega)
        | 5, hv =>
          obtain ⟨hj, hk⟩ := hv
          simp only [va_up_eq, if_true] at hj
          by_cases q : j = s 46
          · subst q
            rw [yz]
            have kz := ak6.1
            have kk : hK h5 (z k) ≠ 0 ∧ hK h6 (z k) ≠ 0 ∧ ow1 (z k) = (5, s 46, k) := by
              have a5 := ak5.1
              rcases hk with rfl | rfl
              · exact ⟨by have := a5.1; omega, by have := kz.1; omega, by rw [hz]; exact o1x⟩
              · exact ⟨by have := a5.2.2.1; omega, by have := kz.2.2.1; omega, o15⟩
            exact ⟨kk.2.1, by rw [ow6 _ kk.1]; exact kk.2.2⟩
          · exact old ⟨show j < s 46 by omega, hk⟩ (by omega) (by omega)
        | 6, hv => exact old hv (by omega) (by omega)
        | 7, hv => exact old hv (by omega) (by omega)
        | 8, hv => exact old hv (by omega) (by omega)
        | (n + 9), hv => exact hv.elim
      obtain ⟨own, d0, df, dt, db, dl, dp, dg, dx, da, dh, du, dr⟩ := id D4
      have hf := F6
      have wp := WP_0 wp
      have y0 := yr 0 (by omega) (by omega)
      have y2 := yr 2 (by omega) (by omega)
      have y3 := yr 3 (by omega) (by omega)
      have y4 := yr 4 (by omega) (by omega)
      have y6 := yr 6 (by omega) (by omega)
      have y7 := yr 7 (by omega) (by omega)
      have y8 := yr 8 (by omega) (by omega)
      have nT : ∀ r i k, r ≠ 5 → r ≠ 0 → r ≠ 1 → ¬ (r, i, k) ∈ [(5, s 46, 0), (0, 8, 0), (1, 8, 0)] := fun r i k h1 h2 h3 => by simp [h1, h2, h3]
      have mk : ∀ k n ci r, (k = 5 ∨ k = 6 ∨ k = 7 ∨ k = 9) → r ≠ 5 → (∀ i, i < n → vld (va_up s 44 0) a r i 0) → (0 < n → vld (va_up s 44 0) a 1 k 0) → Y' r = Y r → LST E h4 (Y 0 k 0) (Y 1 k 0) n ci (fun i => Y r i 0) → LST E h6 (Y' 0 k 0) (Y' 1 k 0) n ci (fun i => Y' r i 0) := fun k n ci r hk hr v1 v2 hyr L => DL1.K own hf (by omega) (by simp; omega) (by simp; omega) v1 v2 (by rw [y0]) (yo 1 k 0 (by omega) (by omega)) (fun i _ => by rw [hyr]) L
      refine ⟨own6, D0.K own hf (by simp) ⟨y0, y7, y8⟩ ⟨rfl, rfl, rfl⟩ (fun _ _ => rfl) d0, DF.K own hf (by simp) (by rw [y0]) rfl (fun _ => rfl) df, DT.K own hf (by simp) (by rw [y0]) (Nat.le_refl _) (fun _ => rfl) dt, DB.K own hf y0 db, ⟨mk 5 (s 27) 4 2 (by omega) (by omega) (fun i hi => And.intro hi (by omega)) (fun hn => And.intro rfl (Or.inl ⟨rfl, hn⟩)) y2 dl.1, mk 6 (s 31) 3 3 (by omega) (by omega) (fun i hi => And.intro hi rfl) (fun hn => And.intro rfl (Or.inr (Or.inl ⟨rfl, hn⟩))) y3 dl.2.1, mk 7 (s 36) 8 4 (by omega) (by omega) (fun i hi => And.intro hi (by omega)) (fun hn => And.intro rfl (Or.inr (Or.inr (Or.inl ⟨rfl, hn⟩)))) y4 dl.2.2.1, ?_, mk 9 (s 57) 2 6 (by omega) (by omega) (fun i hi => And.intro hi (by omega)) (fun hn => And.intro rfl (Or.inr (Or.inr (Or.inr (Or.inr ⟨rfl, hn⟩))))) y6 dl.2.2.2.2⟩, fun p hp => DP.K own hf hp (fun k => nT 2 p k (by omega) (by omega) (by omega)) ⟨fun _ => by rw [y2], fun _ _ => by rw [y3]⟩ ⟨rfl, rfl, rfl, rfl, rfl⟩ (dp p hp), DG.K own wp hf (fun i k => nT 3 i k (by omega) (by omega) (by omega)) ⟨fun _ _ => by rw [y3], fun _ _ => by rw [y2], fun _ _ => by rw [y4]⟩ rfl (fun _ _ => ⟨rfl, rfl⟩) dg, fun t ht => DX.K own hf ht (fun k => nT 4 t k (by omega) (by omega) (by omega)) (fun _ => by rw [y4]) ⟨rfl, rfl, rfl, rfl, fun _ _ => rfl, fun _ _ => rfl, fun _ _ => rfl, fun _ _ => rfl, fun _ _ => rfl⟩ (dx t ht), ?_, fun i hi => DH.K own hf hi (fun k => nT 6 i k (by omega) (by omega) (by omega)) (fun _ => by rw [y6]) ⟨rfl, rfl, rfl, rfl, fun _ _ => rfl⟩ (dh i hi), DU.K own hf ⟨nT 7 0 0 (by omega) (by omega) (by omega), nT 7 0 4 (by omega) (by omega) (by omega)⟩ y7 rfl (fun _ => rfl) du, DR.K own hf (fun q k _ => nT 8 q k (by omega) (by omega) (by omega)) y8 dr⟩
      · have y08 : Y' 0 8 0 = Y 0 8 0 := by rw [y0]
        rw [y08, ye]
        exact L6.M (SAM.rf _ _) (fun _ => SAM.rf _ _) (fun i hi => ⟨by
          by_cases q : i = s 46
          · subst q; rw [yz, hz, va_up_eq, if_pos rfl]
          · rw [yo 5 i 0 (by omega) (by omega), va_up_eq, if_neg q], rfl⟩)
      · intro b hb
        simp only [va_up_eq, if_true] at hb
        by_cases q : b = s 46
        · subst q
          have v47 : akE s a i u w 47 (s 46) = i := by simp [akE, akV, akU, up2_eq]
          have v48 : akE s a i u w 48 (s 46) = u := by simp [akE, akV, akU, up2_eq]
          have v49 : akE s a i u w 49 (s 46) = w := by simp [akE, akV, akU, up2_eq]
          have v50 : akE s a i u w 50 (s 46) = s 44 := by simp [akE, akV, akU, up2_eq]
          have v52 : akE s a i u w 52 (s 46) = s 24 := by simp [akE, akV, akU, up2_eq]
          have v53 : akE s a i u w 53 (s 46) = rp := by rw [← hrp]; simp [akE, up2_eq]
          have v54 : akE s a i u w 54 (s 46) = 0 := by simp [akE, akV, akU, up2_eq]
          have v58 : cntN (fun j => akE s a i u w 58 j == s 46) (s 57) = 0 := cntN_0 (fun j hj => beq_false_of_ne (by have := (pz.2.2.2.1 j hj).1; show ¬ a 58 j = s 46; omega))
          have zr := pz.2.2.1 (s 46) (Nat.le_refl _) (by omega)
          have eY : Y' 5 (s 46) = z := funext yz
          have e1 : akN (va_up (va_up s 44 0) 46 (s 46 + 1)) (akE s a i u w) (s 46) (s 24) 0 = va_up (va_up (akI (s 46) i u w (s 24)) 6 (s 44)) 7 rp := by
            funext k
            by_cases e0 : k = 0
            · subst e0; simp [va_up_eq, akN, akI, v47, v48, v49, v50, v52, v53, v54, v58]
            by_cases e1 : k = 1
            · subst e1; simp [va_up_eq, akN, akI, v47, v48, v49, v50, v52, v53, v54, v58]
            by_cases e2 : k = 2
            · subst e2; simp [va_up_eq, akN, akI, v47, v48, v49, v50, v52, v53, v54, v58]
            by_cases e3 : k = 3
            · subst e3; simp [va_up_eq, akN, akI, v47, v48, v49, v50, v52, v53, v54, v58]
            by_cases e4 : k = 4
            · subst e4; simp [va_up_eq, akN, akI, v47, v48, v49, v50, v52, v53, v54, v58]
            by_cases e6 : k = 6
            · subst e6; simp [va_up_eq, akN, akI, v47, v48, v49, v50, v52, v53, v54, v58]
            by_cases e7 : k = 7
            · subst e7; simp [va_up_eq, akN, akI, v47, v48, v49, v50, v52, v53, v54, v58]
            by_cases e9 : k = 9
            · subst e9; simp [va_up_eq, akN, akI, v47, v48, v49, v50, v52, v53, v54, v58]
            by_cases e10 : k = 10
            · subst e10; simp [va_up_eq, akN, akI, v47, v48, v49, v50, v52, v53, v54, v58]
            by_cases e11 : k = 11
            · subst e11; simp [va_up_eq, akN, akI, v47, v48, v49, v50, v52, v53, v54, v58]
            by_cases e12 : k = 12
            · subst e12; simp [va_up_eq, akN, akI, v47, v48, v49, v50, v52, v53, v54, v58]
            simp [va_up_eq, akN, akI, e0, e1, e2, e3, e4, e6, e7, e9, e10, e11, e12]
          refine ⟨s 24, 0, ?_, ?_⟩
          · rw [eY, e1]
            refine ak6.W (fun k hk => ?_) (fun k => ?_)
            · have hk : k < s 44 := by simpa [va_up_eq] using hk
              rw [if_pos (by omega), if_pos hk]
              simp only [akE, akV, akU, up2_eq, Nat.reduceLeDiff, Nat.reduceLT, Nat.reduceEqDiff, Nat.one_ne_zero, Nat.zero_ne_one, Nat.reduceSub, Nat.reduceAdd, eq_self, true_or, or_true, or_false, false_or, true_and, and_true, false_and, and_false, and_self, or_self, forall_const, not_true_eq_false, not_false_eq_true, false_implies, implies_true, true_implies, ↓reduceIte, if_true, if_false, Nat.not_lt_zero, Nat.zero_le, Nat.le_refl, Nat.lt_irrefl, ne_eq, reduceCtorEq, Bool.false_eq_true]
              rw [if_pos (by omega)]
              congr 1
              omega
            · split
              · simp only [akE, akV, akU, up2_eq, Nat.reduceLeDiff, Nat.reduceLT, Nat.reduceEqDiff, Nat.one_ne_zero, Nat.zero_ne_one, Nat.reduceSub, Nat.reduceAdd, eq_self, true_or, or_true, or_false, false_or, true_and, and_true, false_and, and_false, and_self, or_self, forall_const, not_true_eq_false, not_false_eq_true, false_implies, implies_true, true_implies, ↓reduceIte, if_true, if_false, Nat.not_lt_zero, Nat.zero_le, Nat.le_refl, Nat.lt_irrefl, ne_eq, reduceCtorEq, Bool.false_eq_true]
                split
                · have := w45 (4 * s 46 + k - 4 * s 46) (by omega); omega
                · exact hB _
              · omega
          · refine ⟨by rw [v52]; omega, by omega, by omega, by rw [v52, Nat.sub_self]; rfl, Or.inl v52.symm, fun _ d h3 h4 => zr.1 d h4, Or.inl v52.symm, fun q e => by rw [v54] at e; omega⟩
        · have hb' : b < s 46 := by omega
          exact DA.K own hf hb' (fun k => by simp; omega) (fun k => yo 5 b k (by omega) (by omega)) ⟨Nat.le_refl _, rfl⟩ ⟨akE_o q (by omega), akE_o q (by omega), akE_o q (by omega), akE_o q (by omega), akE_o q (by omega), akE_o q (by omega), akE_o q (by omega), fun j hj => akE_51 q c3 hj, fun _ _ => rfl⟩ (da b hb')
    · refine FRO.n9 (T := [(5, s 46, 0), (5, s 46, 5), (0, 0, 0), (0, 8, 0), (1, 8, 0)]) (FRO.cw (ow' := ow1) ((F4.up (by simp)).t2 (F6.up (by simp))) o1o) (by simp)
  · have e1 : va_up (akI (s 46) i u w (s 24)) 6 0 = akI (s 46) i u w (s 24) := by
      funext k
      rw [va_up_eq]
      split
      · rename_i q; subst q; rfl
      · rfl
    rw [e1]
    simp only [Nat.not_lt_zero, if_false]
    exact ak2
end X8K
