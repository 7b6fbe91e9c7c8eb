/-! the reference: signs and words at the place, codes, waiting signs -/
theorem lgc0 {u v : Nat} (hu : u < 2 ^ 63) (hv : v < 2 ^ 63) : (lg_cmp (lN u) (lN v) = nI 0) = (u = v) := by
  apply propext
  unfold lg_cmp
  simp only [GT.gt, pk_lLT hv hu, pk_lEQ hu hv]
  split
  · constructor
    · intro h; exact absurd h (by decide)
    · omega
  · split
    · rename_i h; simp [h, nI]
    · constructor
      · intro h; exact absurd h (by decide)
      · omega
theorem lgcL {u v : Nat} (hu : u < 2 ^ 63) (hv : v < 2 ^ 63) : (lg_cmp (lN u) (lN v) ≤ nI 0) = (u ≤ v) := by
  apply propext
  unfold lg_cmp
  simp only [GT.gt, pk_lLT hv hu, pk_lEQ hu hv]
  split
  · constructor
    · intro h; exact absurd h (by decide)
    · omega
  · split
    · rename_i h; subst h; simp [nI]
    · constructor
      · intro; omega
      · intro; decide
/-- the tokens -/
def TE (C P : Nat → Nat) (nE : Nat) (a : Nat → Nat → Nat) : Prop := (∀ i, i ≤ nE → tkc (a 4 i) (a 6 i) = C i ∧ a 5 i = P i ∧ P i ≤ 600 ∧ a 4 i ≤ 4 ∧ a 6 i < 2 ^ 62 ∧ (a 4 i = 3 → chS (a 6 i) = true)) ∧ a 9 0 = 519931663 ∧ a 9 1 = 1176170 ∧ a 9 2 = 1891 ∧ a 9 3 = 1633 ∧ a 9 4 = 5538 ∧ a 9 5 = 444789672 ∧ a 9 6 = 30047016 ∧ a 9 7 = 1402353114
theorem tkW_r (v : Nat) : (1 ≤ tkW v ∧ tkW v ≤ 8) ∨ tkW v = 16 := by
  unfold tkW
  repeat' split
  all_goals omega
theorem tkG_r (v : Nat) : 9 ≤ tkG v ∧ tkG v ≤ 16 := by
  unfold tkG
  repeat' split
  all_goals omega
def ivG (k : Nat) : Nat := [40, 41, 59, 61, 60, 43, 45].getD (k - 9) 0
def ivW (k : Nat) : Nat := [519931663, 1176170, 1891, 1633, 5538, 444789672, 30047016, 1402353114].getD (k - 1) 0
theorem ivG_e {v : Nat} (h : tkG v < 16) : ivG (tkG v) = v := by
  unfold tkG at h ⊢
  repeat' split
  all_goals first | (subst_vars; rfl) | skip
  all_goals simp_all
theorem ivW_e {v : Nat} (h : tkW v < 16) : ivW (tkW v) = v := by
  unfold tkW at h ⊢
  repeat' split
  all_goals first | (subst_vars; rfl) | skip
  all_goals simp_all
theorem tk_S {so v c : Nat} (hc : tkG c < 16) : ((so == 3) && (v == c)) = (tkc so v == tkG c) := by
  have h1 := tkG_r c
  by_cases h3 : so = 3
  · subst h3
    simp only [tkc, Nat.reduceEqDiff, if_false, if_true, BEq.rfl, Bool.true_and]
    by_cases e : v = c
    · simp [e]
    · have : ¬ tkG v = tkG c := by
        intro q
        have := ivG_e (v := v) (by omega)
        rw [q, ivG_e hc] at this
        exact e this.symm
      rw [beq_false_of_ne e, beq_false_of_ne this]
  · rw [beq_false_of_ne h3, Bool.false_and]
    symm
    rw [beq_eq_false_iff_ne]
    have h2 := tkW_r v
    unfold tkc
    repeat' split
    all_goals omega
theorem tk_W {so v c : Nat} (hc : tkW c < 16) : ((so == 1) && (v == c)) = (tkc so v == tkW c) := by
  have h1 := tkW_r c
  by_cases h3 : so = 1
  · subst h3
    simp only [tkc, Nat.reduceEqDiff, if_false, if_true, BEq.rfl, Bool.true_and]
    by_cases e : v = c
    · simp [e]
    · have : ¬ tkW v = tkW c := by
        intro q
        have := ivW_e (v := v) (by omega)
        rw [q, ivW_e hc] at this
        exact e this.symm
      rw [beq_false_of_ne e, beq_false_of_ne this]
  · rw [beq_false_of_ne h3, Bool.false_and]
    symm
    rw [beq_eq_false_iff_ne]
    have h2 := tkG_r v
    unfold tkc
    repeat' split
    all_goals omega
section REFV
variable {B : gB} {x : Nat} {xa : Nat → Nat} {h : gHp} {s : Nat → Nat} {a : Nat → Nat → Nat} {d : Nat} {Q : Option Value → gHp → Prop}
set_option maxHeartbeats 800000 in
theorem r_wrong0 {w : Nat} (hr : RS x xa h s a) (h8 : s 8 = 0) (h7 : s 7 < 602) (hw : w ≤ 5) (h5 : a 5 (s 7) ≤ 600) (hq : ∀ h', RS x xa h' (va_up s 8 (w + 16 * a 5 (s 7))) a → RF h h' → Q none h') : gFn B mX9_wrong (d + 1) 0 0 [.ref x, .int (nI w)] h Q := by
  obtain ⟨⟨w0, wR, wK, wN, wI⟩, wS, wA, wZ, wG, wJ, wB⟩ := id hr
  refine gStartX (cut := []) pnX9_wrong okX9_wrong (Nat.le_of_ble_eq_true rfl) 60 ?_
  simp only [axC_nil, axC_hit, axC_def, cutAt, lvLive, Option.isSome_none, Option.isSome_some, catS, lvGet, lvIns, lvSet1, lvSet2, gLit_0, gLit_1, lv_args, fv0, fv1, fv2, fv3, isI_s, isL_s, isRf_s, isRf_n, gtI_s, gtL_s, gtV_s, gFilter_nil, gFilter_cons, gL1, gL2, gL3, gL4, gL5, va_rf_s, va_rf_n, hK_sI, hK_sR, hK_sA, hK_sJ, hK_sO, hI_sI, hI_sR, hI_sA, hI_sJ, hI_sO, hR_sI, hR_sR, hR_sA, hR_sJ, hR_sO, hN_sI, hN_sR, hN_sA, hN_sJ, hN_sO, hA_sI, hA_sR, hA_sA, hA_sJ, hA_sO, hJ_sI, hJ_sR, hJ_sA, hJ_sJ, hJ_sO, hO_sI, hO_sR, hO_sA, hO_sJ, hO_sO, up3_eq, up2_eq, List.map_cons, List.map_nil, List.sum_cons, List.sum_nil, List.nil_append, List.cons_append, Option.toList_some, Option.toList_none, true_and, and_true, if_true, if_false, and_self, true_or, or_true, or_false, false_or, false_and, and_false, not_true_eq_false, not_false_eq_true, forall_const, reduceCtorEq, implies_true, List.contains_cons, List.contains_nil, Bool.or_false, Bool.false_or, Bool.or_true, Bool.true_or, Bool.and_true, Bool.true_and, Bool.and_false, Bool.false_and, Bool.not_true, Bool.not_false, BEq.rfl, Bool.false_eq_true, Bool.true_eq_false, eq_self, ↓reduceIte, Nat.reduceAdd, Nat.reduceEqDiff, Nat.reduceBEq, Nat.reduceLT, Nat.reduceLeDiff, Nat.reduceSub, Nat.reduceMul, Nat.reduceBNe, List.append_nil, Nat.zero_le, Nat.zero_add, Nat.zero_ne_one, Nat.one_ne_zero, false_implies, true_implies, not_false_eq_true, ne_eq, upd_e, updL_e, bI_zo, nI0z, nI1o, nI1z, nI0o, nI0q, nI1q, nm1_lt, nm1_ge, ax_aload_n tX9_wrong_0, ax_getI tX9_wrong_1, ax_if_ne tX9_wrong_4, ax_aload_n tX9_wrong_7, ax_iload_n tX9_wrong_8, ax_bipush tX9_wrong_9, ax_aload_n tX9_wrong_11, ax_getR tX9_wrong_12, ax_aload_n tX9_wrong_15, ax_getI tX9_wrong_16, ax_iaload tX9_wrong_19, ax_imul tX9_wrong_20, ax_iadd tX9_wrong_21, ax_putI tX9_wrong_22, ax_vret tX9_wrong_25, w0, wR, wK, wN, wI, wS, wA, wZ, wG, wJ, ru_0, ru_1, ru_2, ru_3, ru_4, ru_5, ru_6, ru_7, ru_8, ru_9, ru_10, ru_11, ru_12, ru_13, ru_14, ru_15, ru_16, ru_17, ru_18, ru_19, ru_20, ru_21, ru_22, ru_23, ru_24, ru_25, ru_26, ru_27, ru_28, ru_29, ru_30, ru_31, ru_32, ru_33, ru_34, ru_35, ru_36, ru_37, ru_38, ru_39, ru_40, ru_41, ru_42, ru_43, ru_44, ru_45, ru_46, ru_47, ru_48, ru_49, ru_50, ru_51, ru_52, ru_53, ru_54, ru_55, ru_56, ru_57, ru_58, ru_59, ru_60, ru_61, ru_62, ru_63, sc_2, sc_3, sc_7, sc_8, sc_15, sc_16, sc_17, sc_18, sc_24, sc_25, sc_27, sc_31, sc_36, sc_44, sc_46, sc_57, ir_1, rK_1, rN_1, ir_4, rK_4, rN_4, ir_5, rK_5, rN_5, ir_6, rK_6, rN_6, ir_9, rK_9, rN_9, ir_10, rK_10, rN_10, ir_11, rK_11, rN_11, ir_12, rK_12, rN_12, ir_13, rK_13, rN_13, ir_14, rK_14, rN_14, ir_19, rK_19, rN_19, ir_20, rK_20, rN_20, ir_21, rK_21, rN_21, ir_22, rK_22, rN_22, ir_23, rK_23, rN_23, ir_26, rK_26, rN_26, ir_28, rK_28, rN_28, ir_29, rK_29, rN_29, ir_30, rK_30, rN_30, ir_32, rK_32, rN_32, ir_33, rK_33, rN_33, ir_34, rK_34, rN_34, ir_35, rK_35, rN_35, ir_37, rK_37, rN_37, ir_38, rK_38, rN_38, ir_39, rK_39, rN_39, ir_40, rK_40, rN_40, ir_41, rK_41, rN_41, ir_42, rK_42, rN_42, ir_43, rK_43, rN_43, ir_45, rK_45, rN_45, ir_47, rK_47, rN_47, ir_48, rK_48, rN_48, ir_49, rK_49, rN_49, ir_50, rK_50, rN_50, ir_51, rK_51, rN_51, ir_52, rK_52, rN_52, ir_53, rK_53, rN_53, ir_54, rK_54, rN_54, ir_55, rK_55, rN_55, ir_56, rK_56, rN_56, ir_58, rK_58, rN_58, ir_59, rK_59, rN_59, ir_60, rK_60, rN_60, ir_61, rK_61, rN_61, ir_62, rK_62, rN_62, ir_63, rK_63, rN_63]
  simp only [h8]
  simp (disch := omega) only [z0, o1, nI_add, pk_mul, nI_ltI, nI_leI, nI_eq, nI_clamp, vpn, pk_sub, Nat.add_sub_cancel, bI_0, bI_1, eq_self, true_or, or_true, or_false, false_or, true_and, and_true, false_and, and_false, and_self, or_self, forall_const, not_true_eq_false, not_false_eq_true, false_implies, implies_true, true_implies, ↓reduceIte, if_true, if_false, Nat.not_lt_zero, Nat.zero_le, Nat.le_refl, Nat.lt_irrefl, ne_eq, reduceCtorEq, Bool.false_eq_true]
  exact ⟨h7, hq _ (hr.I _) (RF.rf h).I⟩
set_option maxHeartbeats 800000 in
theorem r_wrong1 {w : Nat} (hr : RS x xa h s a) (h8 : ¬ s 8 = 0) (h82 : s 8 < 2 ^ 31) (hw : w ≤ 5) (hq : Q none h) : gFn B mX9_wrong (d + 1) 0 0 [.ref x, .int (nI w)] h Q := by
  obtain ⟨⟨w0, wR, wK, wN, wI⟩, wS, wA, wZ, wG, wJ, wB⟩ := id hr
  refine gStartX (cut := []) pnX9_wrong okX9_wrong (Nat.le_of_ble_eq_true rfl) 60 ?_
  simp only [axC_nil, axC_hit, axC_def, cutAt, lvLive, Option.isSome_none, Option.isSome_some, catS, lvGet, lvIns, lvSet1, lvSet2, gLit_0, gLit_1, lv_args, fv0, fv1, fv2, fv3, isI_s, isL_s, isRf_s, isRf_n, gtI_s, gtL_s, gtV_s, gFilter_nil, gFilter_cons, gL1, gL2, gL3, gL4, gL5, va_rf_s, va_rf_n, hK_sI, hK_sR, hK_sA, hK_sJ, hK_sO, hI_sI, hI_sR, hI_sA, hI_sJ, hI_sO, hR_sI, hR_sR, hR_sA, hR_sJ, hR_sO, hN_sI, hN_sR, hN_sA, hN_sJ, hN_sO, hA_sI, hA_sR, hA_sA, hA_sJ, hA_sO, hJ_sI, hJ_sR, hJ_sA, hJ_sJ, hJ_sO, hO_sI, hO_sR, hO_sA, hO_sJ, hO_sO, up3_eq, up2_eq, List.map_cons, List.map_nil, List.sum_cons, List.sum_nil, List.nil_append, List.cons_append, Option.toList_some, Option.toList_none, true_and, and_true, if_true, if_false, and_self, true_or, or_true, or_false, false_or, false_and, and_false, not_true_eq_false, not_false_eq_true, forall_const, reduceCtorEq, implies_true, List.contains_cons, List.contains_nil, Bool.or_false, Bool.false_or, Bool.or_true, Bool.true_or, Bool.and_true, Bool.true_and, Bool.and_false, Bool.false_and, Bool.not_true, Bool.not_false, BEq.rfl, Bool.false_eq_true, Bool.true_eq_false, eq_self, ↓reduceIte, Nat.reduceAdd, Nat.reduceEqDiff, Nat.reduceBEq, Nat.reduceLT, Nat.reduceLeDiff, Nat.reduceSub, Nat.reduceMul, Nat.reduceBNe, List.append_nil, Nat.zero_le, Nat.zero_add, Nat.zero_ne_one, Nat.one_ne_zero, false_implies, true_implies, not_false_eq_true, ne_eq, upd_e, updL_e, bI_zo, nI0z, nI1o, nI1z, nI0o, nI0q, nI1q, nm1_lt, nm1_ge, ax_aload_n tX9_wrong_0, ax_getI tX9_wrong_1, ax_if_ne tX9_wrong_4, ax_aload_n tX9_wrong_7, ax_iload_n tX9_wrong_8, ax_bipush tX9_wrong_9, ax_aload_n tX9_wrong_11, ax_getR tX9_wrong_12, ax_aload_n tX9_wrong_15, ax_getI tX9_wrong_16, ax_iaload tX9_wrong_19, ax_imul tX9_wrong_20, ax_iadd tX9_wrong_21, ax_putI tX9_wrong_22, ax_vret tX9_wrong_25, w0, wR, wK, wN, wI, wS, wA, wZ, wG, wJ, ru_0, ru_1, ru_2, ru_3, ru_4, ru_5, ru_6, ru_7, ru_8, ru_9, ru_10, ru_11, ru_12, ru_13, ru_14, ru_15, ru_16, ru_17, ru_18, ru_19, ru_20, ru_21, ru_22, ru_23, ru_24, ru_25, ru_26, ru_27, ru_28, ru_29, ru_30, ru_31, ru_32, ru_33, ru_34, ru_35, ru_36, ru_37, ru_38, ru_39, ru_40, ru_41, ru_42, ru_43, ru_44, ru_45, ru_46, ru_47, ru_48, ru_49, ru_50, ru_51, ru_52, ru_53, ru_54, ru_55, ru_56, ru_57, ru_58, ru_59, ru_60, ru_61, ru_62, ru_63, sc_2, sc_3, sc_7, sc_8, sc_15, sc_16, sc_17, sc_18, sc_24, sc_25, sc_27, sc_31, sc_36, sc_44, sc_46, sc_57, ir_1, rK_1, rN_1, ir_4, rK_4, rN_4, ir_5, rK_5, rN_5, ir_6, rK_6, rN_6, ir_9, rK_9, rN_9, ir_10, rK_10, rN_10, ir_11, rK_11, rN_11, ir_12, rK_12, rN_12, ir_13, rK_13, rN_13, ir_14, rK_14, rN_14, ir_19, rK_19, rN_19, ir_20, rK_20, rN_20, ir_21, rK_21, rN_21, ir_22, rK_22, rN_22, ir_23, rK_23, rN_23, ir_26, rK_26, rN_26, ir_28, rK_28, rN_28, ir_29, rK_29, rN_29, ir_30, rK_30, rN_30, ir_32, rK_32, rN_32, ir_33, rK_33, rN_33, ir_34, rK_34, rN_34, ir_35, rK_35, rN_35, ir_37, rK_37, rN_37, ir_38, rK_38, rN_38, ir_39, rK_39, rN_39, ir_40, rK_40, rN_40, ir_41, rK_41, rN_41, ir_42, rK_42, rN_42, ir_43, rK_43, rN_43, ir_45, rK_45, rN_45, ir_47, rK_47, rN_47, ir_48, rK_48, rN_48, ir_49, rK_49, rN_49, ir_50, rK_50, rN_50, ir_51, rK_51, rN_51, ir_52, rK_52, rN_52, ir_53, rK_53, rN_53, ir_54, rK_54, rN_54, ir_55, rK_55, rN_55, ir_56, rK_56, rN_56, ir_58, rK_58, rN_58, ir_59, rK_59, rN_59, ir_60, rK_60, rN_60, ir_61, rK_61, rN_61, ir_62, rK_62, rN_62, ir_63, rK_63, rN_63]
  simp (disch := omega) only [z0, o1, nI_add, pk_mul, nI_ltI, nI_leI, nI_eq, nI_clamp, vpn, pk_sub, Nat.add_sub_cancel, bI_0, bI_1, eq_self, true_or, or_true, or_false, false_or, true_and, and_true, false_and, and_false, and_self, or_self, forall_const, not_true_eq_false, not_false_eq_true, false_implies, implies_true, true_implies, ↓reduceIte, if_true, if_false, Nat.not_lt_zero, Nat.zero_le, Nat.le_refl, Nat.lt_irrefl, ne_eq, reduceCtorEq, Bool.false_eq_true]
  exact ⟨fun _ => hq, fun c => absurd c h8⟩
set_option maxHeartbeats 800000 in
theorem r_isSign1 {c : Nat} (hr : RS x xa h s a) (h8 : ¬ s 8 = 0) (h82 : s 8 < 2 ^ 31) (hq : Q (some (.int (nI 0))) h) : gFn B mX9_isSign (d + 1) 0 0 [.ref x, .int (nI c)] h Q := by
  obtain ⟨⟨w0, wR, wK, wN, wI⟩, wS, wA, wZ, wG, wJ, wB⟩ := id hr
  refine gStartX (cut := []) pnX9_isSign okX9_isSign (Nat.le_of_ble_eq_true rfl) 60 ?_
  simp only [axC_nil, axC_hit, axC_def, cutAt, lvLive, Option.isSome_none, Option.isSome_some, catS, lvGet, lvIns, lvSet1, lvSet2, gLit_0, gLit_1, lv_args, fv0, fv1, fv2, fv3, isI_s, isL_s, isRf_s, isRf_n, gtI_s, gtL_s, gtV_s, gFilter_nil, gFilter_cons, gL1, gL2, gL3, gL4, gL5, va_rf_s, va_rf_n, hK_sI, hK_sR, hK_sA, hK_sJ, hK_sO, hI_sI, hI_sR, hI_sA, hI_sJ, hI_sO, hR_sI, hR_sR, hR_sA, hR_sJ, hR_sO, hN_sI, hN_sR, hN_sA, hN_sJ, hN_sO, hA_sI, hA_sR, hA_sA, hA_sJ, hA_sO, hJ_sI, hJ_sR, hJ_sA, hJ_sJ, hJ_sO, hO_sI, hO_sR, hO_sA, hO_sJ, hO_sO, up3_eq, up2_eq, List.map_cons, List.map_nil, List.sum_cons, List.sum_nil, List.nil_append, List.cons_append, Option.toList_some, Option.toList_none, true_and, and_true, if_true, if_false, and_self, true_or, or_true, or_false, false_or, false_and, and_false, not_true_eq_false, not_false_eq_true, forall_const, reduceCtorEq, implies_true, List.contains_cons, List.contains_nil, Bool.or_false, Bool.false_or, Bool.or_true, Bool.true_or, Bool.and_true, Bool.true_and, Bool.and_false, Bool.false_and, Bool.not_true, Bool.not_false, BEq.rfl, Bool.false_eq_true, Bool.true_eq_false, eq_self, ↓reduceIte, Nat.reduceAdd, Nat.reduceEqDiff, Nat.reduceBEq, Nat.reduceLT, Nat.reduceLeDiff, Nat.reduceSub, Nat.reduceMul, Nat.reduceBNe, List.append_nil, Nat.zero_le, Nat.zero_add, Nat.zero_ne_one, Nat.one_ne_zero, false_implies, true_implies, not_false_eq_true, ne_eq, upd_e, updL_e, bI_zo, nI0z, nI1o, nI1z, nI0o, nI0q, nI1q, nm1_lt, nm1_ge, ax_aload_n tX9_isSign_0, ax_getI tX9_isSign_1, ax_if_ne tX9_isSign_4, ax_aload_n tX9_isSign_7, ax_getR tX9_isSign_8, ax_aload_n tX9_isSign_11, ax_getI tX9_isSign_12, ax_iaload tX9_isSign_15, ax_iconst tX9_isSign_16, ax_icmp_ne tX9_isSign_17, ax_aload_n tX9_isSign_20, ax_getR tX9_isSign_21, ax_aload_n tX9_isSign_24, ax_getI tX9_isSign_25, ax_laload tX9_isSign_28, ax_iload_n tX9_isSign_29, ax_i2l tX9_isSign_30, ax_lcmp tX9_isSign_31, ax_if_ne tX9_isSign_32, ax_iconst tX9_isSign_35, ax_goto tX9_isSign_36, ax_iconst tX9_isSign_39, ax_iretZ tX9_isSign_40, w0, wR, wK, wN, wI, wS, wA, wZ, wG, wJ, ru_0, ru_1, ru_2, ru_3, ru_4, ru_5, ru_6, ru_7, ru_8, ru_9, ru_10, ru_11, ru_12, ru_13, ru_14, ru_15, ru_16, ru_17, ru_18, ru_19, ru_20, ru_21, ru_22, ru_23, ru_24, ru_25, ru_26, ru_27, ru_28, ru_29, ru_30, ru_31, ru_32, ru_33, ru_34, ru_35, ru_36, ru_37, ru_38, ru_39, ru_40, ru_41, ru_42, ru_43, ru_44, ru_45, ru_46, ru_47, ru_48, ru_49, ru_50, ru_51, ru_52, ru_53, ru_54, ru_55, ru_56, ru_57, ru_58, ru_59, ru_60, ru_61, ru_62, ru_63, sc_2, sc_3, sc_7, sc_8, sc_15, sc_16, sc_17, sc_18, sc_24, sc_25, sc_27, sc_31, sc_36, sc_44, sc_46, sc_57, ir_1, rK_1, rN_1, ir_4, rK_4, rN_4, ir_5, rK_5, rN_5, ir_6, rK_6, rN_6, ir_9, rK_9, rN_9, ir_10, rK_10, rN_10, ir_11, rK_11, rN_11, ir_12, rK_12, rN_12, ir_13, rK_13, rN_13, ir_14, rK_14, rN_14, ir_19, rK_19, rN_19, ir_20, rK_20, rN_20, ir_21, rK_21, rN_21, ir_22, rK_22, rN_22, ir_23, rK_23, rN_23, ir_26, rK_26, rN_26, ir_28, rK_28, rN_28, ir_29, rK_29, rN_29, ir_30, rK_30, rN_30, ir_32, rK_32, rN_32, ir_33, rK_33, rN_33, ir_34, rK_34, rN_34, ir_35, rK_35, rN_35, ir_37, rK_37, rN_37, ir_38, rK_38, rN_38, ir_39, rK_39, rN_39, ir_40, rK_40, rN_40, ir_41, rK_41, rN_41, ir_42, rK_42, rN_42, ir_43, rK_43, rN_43, ir_45, rK_45, rN_45, ir_47, rK_47, rN_47, ir_48, rK_48, rN_48, ir_49, rK_49, rN_49, ir_50, rK_50, rN_50, ir_51, rK_51, rN_51, ir_52, rK_52, rN_52, ir_53, rK_53, rN_53, ir_54, rK_54, rN_54, ir_55, rK_55, rN_55, ir_56, rK_56, rN_56, ir_58, rK_58, rN_58, ir_59, rK_59, rN_59, ir_60, rK_60, rN_60, ir_61, rK_61, rN_61, ir_62, rK_62, rN_62, ir_63, rK_63, rN_63]
  simp (disch := omega) only [z0, o1, nI_add, pk_mul, nI_ltI, nI_leI, nI_eq, nI_clamp, vpn, pk_sub, Nat.add_sub_cancel, bI_0, bI_1, eq_self, true_or, or_true, or_false, false_or, true_and, and_true, false_and, and_false, and_self, or_self, forall_const, not_true_eq_false, not_false_eq_true, false_implies, implies_true, true_implies, ↓reduceIte, if_true, if_false, Nat.not_lt_zero, Nat.zero_le, Nat.le_refl, Nat.lt_irrefl, ne_eq, reduceCtorEq, Bool.false_eq_true]
  exact ⟨fun _ => hq, fun c => absurd c h8⟩
set_option maxHeartbeats 800000 in
theorem r_isSign0 {c k : Nat} {C P : Nat → Nat} {nE : Nat} (hr : RS x xa h s a) (te : TE C P nE a) (h8 : s 8 = 0) (h7 : s 7 ≤ nE) (hN : nE ≤ 600) (hk : tkG c = k) (hk2 : k < 16) (hc : c < 128) (hq : Q (some (.int (bI (C (s 7) == k)))) h) : gFn B mX9_isSign (d + 1) 0 0 [.ref x, .int (nI c)] h Q := by
  obtain ⟨⟨w0, wR, wK, wN, wI⟩, wS, wA, wZ, wG, wJ, wB⟩ := id hr
  obtain ⟨t1, t2, t3, t4, t5, t6⟩ := te.1 _ h7
  subst hk
  rw [← t1, ← tk_S hk2] at hq
  have b4 := wB 4 (s 7) (by decide)
  refine gStartX (cut := []) pnX9_isSign okX9_isSign (Nat.le_of_ble_eq_true rfl) 60 ?_
  simp only [axC_nil, axC_hit, axC_def, cutAt, lvLive, Option.isSome_none, Option.isSome_some, catS, lvGet, lvIns, lvSet1, lvSet2, gLit_0, gLit_1, lv_args, fv0, fv1, fv2, fv3, isI_s, isL_s, isRf_s, isRf_n, gtI_s, gtL_s, gtV_s, gFilter_nil, gFilter_cons, gL1, gL2, gL3, gL4, gL5, va_rf_s, va_rf_n, hK_sI, hK_sR, hK_sA, hK_sJ, hK_sO, hI_sI, hI_sR, hI_sA, hI_sJ, hI_sO, hR_sI, hR_sR, hR_sA, hR_sJ, hR_sO, hN_sI, hN_sR, hN_sA, hN_sJ, hN_sO, hA_sI, hA_sR, hA_sA, hA_sJ, hA_sO, hJ_sI, hJ_sR, hJ_sA, hJ_sJ, hJ_sO, hO_sI, hO_sR, hO_sA, hO_sJ, hO_sO, up3_eq, up2_eq, List.map_cons, List.map_nil, List.sum_cons, List.sum_nil, List.nil_append, List.cons_append, Option.toList_some, Option.toList_none, true_and, and_true, if_true, if_false, and_self, true_or, or_true, or_false, false_or, false_and, and_false, not_true_eq_false, not_false_eq_true, forall_const, reduceCtorEq, implies_true, List.contains_cons, List.contains_nil, Bool.or_false, Bool.false_or, Bool.or_true, Bool.true_or, Bool.and_true, Bool.true_and, Bool.and_false, Bool.false_and, Bool.not_true, Bool.not_false, BEq.rfl, Bool.false_eq_true, Bool.true_eq_false, eq_self, ↓reduceIte, Nat.reduceAdd, Nat.reduceEqDiff, Nat.reduceBEq, Nat.reduceLT, Nat.reduceLeDiff, Nat.reduceSub, Nat.reduceMul, Nat.reduceBNe, List.append_nil, Nat.zero_le, Nat.zero_add, Nat.zero_ne_one, Nat.one_ne_zero, false_implies, true_implies, not_false_eq_true, ne_eq, upd_e, updL_e, bI_zo, nI0z, nI1o, nI1z, nI0o, nI0q, nI1q, nm1_lt, nm1_ge, ax_aload_n tX9_isSign_0, ax_getI tX9_isSign_1, ax_if_ne tX9_isSign_4, ax_aload_n tX9_isSign_7, ax_getR tX9_isSign_8, ax_aload_n tX9_isSign_11, ax_getI tX9_isSign_12, ax_iaload tX9_isSign_15, ax_iconst tX9_isSign_16, ax_icmp_ne tX9_isSign_17, ax_aload_n tX9_isSign_20, ax_getR tX9_isSign_21, ax_aload_n tX9_isSign_24, ax_getI tX9_isSign_25, ax_laload tX9_isSign_28, ax_iload_n tX9_isSign_29, ax_i2l tX9_isSign_30, ax_lcmp tX9_isSign_31, ax_if_ne tX9_isSign_32, ax_iconst tX9_isSign_35, ax_goto tX9_isSign_36, ax_iconst tX9_isSign_39, ax_iretZ tX9_isSign_40, w0, wR, wK, wN, wI, wS, wA, wZ, wG, wJ, ru_0, ru_1, ru_2, ru_3, ru_4, ru_5, ru_6, ru_7, ru_8, ru_9, ru_10, ru_11, ru_12, ru_13, ru_14, ru_15, ru_16, ru_17, ru_18, ru_19, ru_20, ru_21, ru_22, ru_23, ru_24, ru_25, ru_26, ru_27, ru_28, ru_29, ru_30, ru_31, ru_32, ru_33, ru_34, ru_35, ru_36, ru_37, ru_38, ru_39, ru_40, ru_41, ru_42, ru_43, ru_44, ru_45, ru_46, ru_47, ru_48, ru_49, ru_50, ru_51, ru_52, ru_53, ru_54, ru_55, ru_56, ru_57, ru_58, ru_59, ru_60, ru_61, ru_62, ru_63, sc_2, sc_3, sc_7, sc_8, sc_15, sc_16, sc_17, sc_18, sc_24, sc_25, sc_27, sc_31, sc_36, sc_44, sc_46, sc_57, ir_1, rK_1, rN_1, ir_4, rK_4, rN_4, ir_5, rK_5, rN_5, ir_6, rK_6, rN_6, ir_9, rK_9, rN_9, ir_10, rK_10, rN_10, ir_11, rK_11, rN_11, ir_12, rK_12, rN_12, ir_13, rK_13, rN_13, ir_14, rK_14, rN_14, ir_19, rK_19, rN_19, ir_20, rK_20, rN_20, ir_21, rK_21, rN_21, ir_22, rK_22, rN_22, ir_23, rK_23, rN_23, ir_26, rK_26, rN_26, ir_28, rK_28, rN_28, ir_29, rK_29, rN_29, ir_30, rK_30, rN_30, ir_32, rK_32, rN_32, ir_33, rK_33, rN_33, ir_34, rK_34, rN_34, ir_35, rK_35, rN_35, ir_37, rK_37, rN_37, ir_38, rK_38, rN_38, ir_39, rK_39, rN_39, ir_40, rK_40, rN_40, ir_41, rK_41, rN_41, ir_42, rK_42, rN_42, ir_43, rK_43, rN_43, ir_45, rK_45, rN_45, ir_47, rK_47, rN_47, ir_48, rK_48, rN_48, ir_49, rK_49, rN_49, ir_50, rK_50, rN_50, ir_51, rK_51, rN_51, ir_52, rK_52, rN_52, ir_53, rK_53, rN_53, ir_54, rK_54, rN_54, ir_55, rK_55, rN_55, ir_56, rK_56, rN_56, ir_58, rK_58, rN_58, ir_59, rK_59, rN_59, ir_60, rK_60, rN_60, ir_61, rK_61, rN_61, ir_62, rK_62, rN_62, ir_63, rK_63, rN_63]
  simp only [h8, nI_l (show c < 2 ^ 31 by omega)]
  simp (disch := omega) only [z0, o1, nI_add, pk_mul, nI_ltI, nI_leI, nI_eq, nI_clamp, vpn, pk_sub, Nat.add_sub_cancel, bI_0, bI_1, eq_self, true_or, or_true, or_false, false_or, true_and, and_true, false_and, and_false, and_self, or_self, forall_const, not_true_eq_false, not_false_eq_true, false_implies, implies_true, true_implies, ↓reduceIte, if_true, if_false, Nat.not_lt_zero, Nat.zero_le, Nat.le_refl, Nat.lt_irrefl, ne_eq, reduceCtorEq, Bool.false_eq_true]
  simp only [lgc0 (show a 6 (s 7) < 2 ^ 63 by omega) (show c < 2 ^ 63 by omega)]
  refine ⟨by omega, fun c1 => ?_, fun c1 => ⟨by omega, fun c2 => ?_, fun c2 => ?_⟩⟩
  · rw [beq_false_of_ne c1] at hq; exact hq
  · rw [beq_false_of_ne c2, Bool.and_false] at hq; exact hq
  · rw [c1, c2] at hq; simp only [BEq.rfl, Bool.and_self] at hq; exact hq
set_option maxHeartbeats 800000 in
theorem r_isWord1 {c : Nat} (hr : RS x xa h s a) (h8 : ¬ s 8 = 0) (h82 : s 8 < 2 ^ 31) (hq : Q (some (.int (nI 0))) h) : gFn B mX9_isWord (d + 1) 0 0 [.ref x, .int (nI c)] h Q := by
  obtain ⟨⟨w0, wR, wK, wN, wI⟩, wS, wA, wZ, wG, wJ, wB⟩ := id hr
  refine gStartX (cut := []) pnX9_isWord okX9_isWord (Nat.le_of_ble_eq_true rfl) 60 ?_
  simp only [axC_nil, axC_hit, axC_def, cutAt, lvLive, Option.isSome_none, Option.isSome_some, catS, lvGet, lvIns, lvSet1, lvSet2, gLit_0, gLit_1, lv_args, fv0, fv1, fv2, fv3, isI_s, isL_s, isRf_s, isRf_n, gtI_s, gtL_s, gtV_s, gFilter_nil, gFilter_cons, gL1, gL2, gL3, gL4, gL5, va_rf_s, va_rf_n, hK_sI, hK_sR, hK_sA, hK_sJ, hK_sO, hI_sI, hI_sR, hI_sA, hI_sJ, hI_sO, hR_sI, hR_sR, hR_sA, hR_sJ, hR_sO, hN_sI, hN_sR, hN_sA, hN_sJ, hN_sO, hA_sI, hA_sR, hA_sA, hA_sJ, hA_sO, hJ_sI, hJ_sR, hJ_sA, hJ_sJ, hJ_sO, hO_sI, hO_sR, hO_sA, hO_sJ, hO_sO, up3_eq, up2_eq, List.map_cons, List.map_nil, List.sum_cons, List.sum_nil, List.nil_append, List.cons_append, Option.toList_some, Option.toList_none, true_and, and_true, if_true, if_false, and_self, true_or, or_true, or_false, false_or, false_and, and_false, not_true_eq_false, not_false_eq_true, forall_const, reduceCtorEq, implies_true, List.contains_cons, List.contains_nil, Bool.or_false, Bool.false_or, Bool.or_true, Bool.true_or, Bool.and_true, Bool.true_and, Bool.and_false, Bool.false_and, Bool.not_true, Bool.not_false, BEq.rfl, Bool.false_eq_true, Bool.true_eq_false, eq_self, ↓reduceIte, Nat.reduceAdd, Nat.reduceEqDiff, Nat.reduceBEq, Nat.reduceLT, Nat.reduceLeDiff, Nat.reduceSub, Nat.reduceMul, Nat.reduceBNe, List.append_nil, Nat.zero_le, Nat.zero_add, Nat.zero_ne_one, Nat.one_ne_zero, false_implies, true_implies, not_false_eq_true, ne_eq, upd_e, updL_e, bI_zo, nI0z, nI1o, nI1z, nI0o, nI0q, nI1q, nm1_lt, nm1_ge, ax_aload_n tX9_isWord_0, ax_getI tX9_isWord_1, ax_if_ne tX9_isWord_4, ax_aload_n tX9_isWord_7, ax_getR tX9_isWord_8, ax_aload_n tX9_isWord_11, ax_getI tX9_isWord_12, ax_iaload tX9_isWord_15, ax_iconst tX9_isWord_16, ax_icmp_ne tX9_isWord_17, ax_aload_n tX9_isWord_20, ax_getR tX9_isWord_21, ax_aload_n tX9_isWord_24, ax_getI tX9_isWord_25, ax_laload tX9_isWord_28, ax_aload_n tX9_isWord_29, ax_getR tX9_isWord_30, ax_iload_n tX9_isWord_33, ax_laload tX9_isWord_34, ax_lcmp tX9_isWord_35, ax_if_ne tX9_isWord_36, ax_iconst tX9_isWord_39, ax_goto tX9_isWord_40, ax_iconst tX9_isWord_43, ax_iretZ tX9_isWord_44, w0, wR, wK, wN, wI, wS, wA, wZ, wG, wJ, ru_0, ru_1, ru_2, ru_3, ru_4, ru_5, ru_6, ru_7, ru_8, ru_9, ru_10, ru_11, ru_12, ru_13, ru_14, ru_15, ru_16, ru_17, ru_18, ru_19, ru_20, ru_21, ru_22, ru_23, ru_24, ru_25, ru_26, ru_27, ru_28, ru_29, ru_30, ru_31, ru_32, ru_33, ru_34, ru_35, ru_36, ru_37, ru_38, ru_39, ru_40, ru_41, ru_42, ru_43, ru_44, ru_45, ru_46, ru_47, ru_48, ru_49, ru_50, ru_51, ru_52, ru_53, ru_54, ru_55, ru_56, ru_57, ru_58, ru_59, ru_60, ru_61, ru_62, ru_63, sc_2, sc_3, sc_7, sc_8, sc_15, sc_16, sc_17, sc_18, sc_24, sc_25, sc_27, sc_31, sc_36, sc_44, sc_46, sc_57, ir_1, rK_1, rN_1, ir_4, rK_4, rN_4, ir_5, rK_5, rN_5, ir_6, rK_6, rN_6, ir_9, rK_9, rN_9, ir_10, rK_10, rN_10, ir_11, rK_11, rN_11, ir_12, rK_12, rN_12, ir_13, rK_13, rN_13, ir_14, rK_14, rN_14, ir_19, rK_19, rN_19, ir_20, rK_20, rN_20, ir_21, rK_21, rN_21, ir_22, rK_22, rN_22, ir_23, rK_23, rN_23, ir_26, rK_26, rN_26, ir_28, rK_28, rN_28, ir_29, rK_29, rN_29, ir_30, rK_30, rN_30, ir_32, rK_32, rN_32, ir_33, rK_33, rN_33, ir_34, rK_34, rN_34, ir_35, rK_35, rN_35, ir_37, rK_37, rN_37, ir_38, rK_38, rN_38, ir_39, rK_39, rN_39, ir_40, rK_40, rN_40, ir_41, rK_41, rN_41, ir_42, rK_42, rN_42, ir_43, rK_43, rN_43, ir_45, rK_45, rN_45, ir_47, rK_47, rN_47, ir_48, rK_48, rN_48, ir_49, rK_49, rN_49, ir_50, rK_50, rN_50, ir_51, rK_51, rN_51, ir_52, rK_52, rN_52, ir_53, rK_53, rN_53, ir_54, rK_54, rN_54, ir_55, rK_55, rN_55, ir_56, rK_56, rN_56, ir_58, rK_58, rN_58, ir_59, rK_59, rN_59, ir_60, rK_60, rN_60, ir_61, rK_61, rN_61, ir_62, rK_62, rN_62, ir_63, rK_63, rN_63]
  simp (disch := omega) only [z0, o1, nI_add, pk_mul, nI_ltI, nI_leI, nI_eq, nI_clamp, vpn, pk_sub, Nat.add_sub_cancel, bI_0, bI_1, eq_self, true_or, or_true, or_false, false_or, true_and, and_true, false_and, and_false, and_self, or_self, forall_const, not_true_eq_false, not_false_eq_true, false_implies, implies_true, true_implies, ↓reduceIte, if_true, if_false, Nat.not_lt_zero, Nat.zero_le, Nat.le_refl, Nat.lt_irrefl, ne_eq, reduceCtorEq, Bool.false_eq_true]
  exact ⟨fun _ => hq, fun c => absurd c h8⟩
set_option maxHeartbeats 800000 in
theorem r_isWord0 {c : Nat} {C P : Nat → Nat} {nE : Nat} (hr : RS x xa h s a) (te : TE C P nE a) (h8 : s 8 = 0) (h7 : s 7 ≤ nE) (hN : nE ≤ 600) (hc : c < 8) (hq : Q (some (.int (bI (C (s 7) == c + 1)))) h) : gFn B mX9_isWord (d + 1) 0 0 [.ref x, .int (nI c)] h Q := by
  obtain ⟨⟨w0, wR, wK, wN, wI⟩, wS, wA, wZ, wG, wJ, wB⟩ := id hr
  obtain ⟨t1, t2, t3, t4, t5, t6⟩ := te.1 _ h7
  have e9 : tkW (a 9 c) = c + 1 ∧ a 9 c < 2 ^ 62 := by
    obtain ⟨_, q0, q1, q2, q3, q4, q5, q6, q7⟩ := te
    rcases (by omega : c = 0 ∨ c = 1 ∨ c = 2 ∨ c = 3 ∨ c = 4 ∨ c = 5 ∨ c = 6 ∨ c = 7) with e | e | e | e | e | e | e | e <;> subst e
    · rw [q0]; decide
    · rw [q1]; decide
    · rw [q2]; decide
    · rw [q3]; decide
    · rw [q4]; decide
    · rw [q5]; decide
    · rw [q6]; decide
    · rw [q7]; decide
  rw [← t1, ← e9.1, ← tk_W (by omega)] at hq
  have b4 := wB 4 (s 7) (by decide)
  refine gStartX (cut := []) pnX9_isWord okX9_isWord (Nat.le_of_ble_eq_true rfl) 60 ?_
  simp only [axC_nil, axC_hit, axC_def, cutAt, lvLive, Option.isSome_none, Option.isSome_some, catS, lvGet, lvIns, lvSet1, lvSet2, gLit_0, gLit_1, lv_args, fv0, fv1, fv2, fv3, isI_s, isL_s, isRf_s, isRf_n, gtI_s, gtL_s, gtV_s, gFilter_nil, gFilter_cons, gL1, gL2, gL3, gL4, gL5, va_rf_s, va_rf_n, hK_sI, hK_sR, hK_sA, hK_sJ, hK_sO, hI_sI, hI_sR, hI_sA, hI_sJ, hI_sO, hR_sI, hR_sR, hR_sA, hR_sJ, hR_sO, hN_sI, hN_sR, hN_sA, hN_sJ, hN_sO, hA_sI, hA_sR, hA_sA, hA_sJ, hA_sO, hJ_sI, hJ_sR, hJ_sA, hJ_sJ, hJ_sO, hO_sI, hO_sR, hO_sA, hO_sJ, hO_sO, up3_eq, up2_eq, List.map_cons, List.map_nil, List.sum_cons, List.sum_nil, List.nil_append, List.cons_append, Option.toList_some, Option.toList_none, true_and, and_true, if_true, if_false, and_self, true_or, or_true, or_false, false_or, false_and, and_false, not_true_eq_false, not_false_eq_true, forall_const, reduceCtorEq, implies_true, List.contains_cons, List.contains_nil, Bool.or_false, Bool.false_or, Bool.or_true, Bool.true_or, Bool.and_true, Bool.true_and, Bool.and_false, Bool.false_and, Bool.not_true, Bool.not_false, BEq.rfl, Bool.false_eq_true, Bool.true_eq_false, eq_self, ↓reduceIte, Nat.reduceAdd, Nat.reduceEqDiff, Nat.reduceBEq, Nat.reduceLT, Nat.reduceLeDiff, Nat.reduceSub, Nat.reduceMul, Nat.reduceBNe, List.append_nil, Nat.zero_le, Nat.zero_add, Nat.zero_ne_one, Nat.one_ne_zero, false_implies, true_implies, not_false_eq_true, ne_eq, upd_e, updL_e, bI_zo, nI0z, nI1o, nI1z, nI0o, nI0q, nI1q, nm1_lt, nm1_ge, ax_aload_n tX9_isWord_0, ax_getI tX9_isWord_1, ax_if_ne tX9_isWord_4, ax_aload_n tX9_isWord_7, ax_getR tX9_isWord_8, ax_aload_n tX9_isWord_11, ax_getI tX9_isWord_12, ax_iaload tX9_isWord_15, ax_iconst tX9_isWord_16, ax_icmp_ne tX9_isWord_17, ax_aload_n tX9_isWord_20, ax_getR tX9_isWord_21, ax_aload_n tX9_isWord_24, ax_getI tX9_isWord_25, ax_laload tX9_isWord_28, ax_aload_n tX9_isWord_29, ax_getR tX9_isWord_30, ax_iload_n tX9_isWord_33, ax_laload tX9_isWord_34, ax_lcmp tX9_isWord_35, ax_if_ne tX9_isWord_36, ax_iconst tX9_isWord_39, ax_goto tX9_isWord_40, ax_iconst tX9_isWord_43, ax_iretZ tX9_isWord_44, w0, wR, wK, wN, wI, wS, wA, wZ, wG, wJ, ru_0, ru_1, ru_2, ru_3, ru_4, ru_5, ru_6, ru_7, ru_8, ru_9, ru_10, ru_11, ru_12, ru_13, ru_14, ru_15, ru_16, ru_17, ru_18, ru_19, ru_20, ru_21, ru_22, ru_23, ru_24, ru_25, ru_26, ru_27, ru_28, ru_29, ru_30, ru_31, ru_32, ru_33, ru_34, ru_35, ru_36, ru_37, ru_38, ru_39, ru_40, ru_41, ru_42, ru_43, ru_44, ru_45, ru_46, ru_47, ru_48, ru_49, ru_50, ru_51, ru_52, ru_53, ru_54, ru_55, ru_56, ru_57, ru_58, ru_59, ru_60, ru_61, ru_62, ru_63, sc_2, sc_3, sc_7, sc_8, sc_15, sc_16, sc_17, sc_18, sc_24, sc_25, sc_27, sc_31, sc_36, sc_44, sc_46, sc_57, ir_1, rK_1, rN_1, ir_4, rK_4, rN_4, ir_5, rK_5, rN_5, ir_6, rK_6, rN_6, ir_9, rK_9, rN_9, ir_10, rK_10, rN_10, ir_11, rK_11, rN_11, ir_12, rK_12, rN_12, ir_13, rK_13, rN_13, ir_14, rK_14, rN_14, ir_19, rK_19, rN_19, ir_20, rK_20, rN_20, ir_21, rK_21, rN_21, ir_22, rK_22, rN_22, ir_23, rK_23, rN_23, ir_26, rK_26, rN_26, ir_28, rK_28, rN_28, ir_29, rK_29, rN_29, ir_30, rK_30, rN_30, ir_32, rK_32, rN_32, ir_33, rK_33, rN_33, ir_34, rK_34, rN_34, ir_35, rK_35, rN_35, ir_37, rK_37, rN_37, ir_38, rK_38, rN_38, ir_39, rK_39, rN_39, ir_40, rK_40, rN_40, ir_41, rK_41, rN_41, ir_42, rK_42, rN_42, ir_43, rK_43, rN_43, ir_45, rK_45, rN_45, ir_47, rK_47, rN_47, ir_48, rK_48, rN_48, ir_49, rK_49, rN_49, ir_50, rK_50, rN_50, ir_51, rK_51, rN_51, ir_52, rK_52, rN_52, ir_53, rK_53, rN_53, ir_54, rK_54, rN_54, ir_55, rK_55, rN_55, ir_56, rK_56, rN_56, ir_58, rK_58, rN_58, ir_59, rK_59, rN_59, ir_60, rK_60, rN_60, ir_61, rK_61, rN_61, ir_62, rK_62, rN_62, ir_63, rK_63, rN_63]
  simp only [h8]
  simp (disch := omega) only [z0, o1, nI_add, pk_mul, nI_ltI, nI_leI, nI_eq, nI_clamp, vpn, pk_sub, Nat.add_sub_cancel, bI_0, bI_1, eq_self, true_or, or_true, or_false, false_or, true_and, and_true, false_and, and_false, and_self, or_self, forall_const, not_true_eq_false, not_false_eq_true, false_implies, implies_true, true_implies, ↓reduceIte, if_true, if_false, Nat.not_lt_zero, Nat.zero_le, Nat.le_refl, Nat.lt_irrefl, ne_eq, reduceCtorEq, Bool.false_eq_true]
  simp only [lgc0 (show a 6 (s 7) < 2 ^ 63 by omega) (show a 9 c < 2 ^ 63 by omega)]
  refine ⟨by omega, fun c1 => ?_, fun c1 => ⟨by omega, hc, fun c2 => ?_, fun c2 => ?_⟩⟩
  · rw [beq_false_of_ne c1] at hq; exact hq
  · rw [beq_false_of_ne c2, Bool.and_false] at hq; exact hq
  · rw [c1, c2] at hq; simp only [BEq.rfl, Bool.and_self] at hq; exact hq
end REFV
