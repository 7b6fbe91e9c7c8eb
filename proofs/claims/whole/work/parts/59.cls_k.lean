/-! THE CLASS: cut, tokens and places, bytes -/
theorem cutS_f {T : Nat → Nat} {z : Nat} : ∀ f g k, z ≤ k + f → z ≤ k + g → cutS T z f k = cutS T z g k := by
  intro f
  induction f with
  | zero =>
    intro g k h1 h2
    rcases g with _ | g
    · rfl
    · unfold cutS
      rw [if_pos (by omega)]
  | succ f ih =>
    intro g k h1 h2
    rcases g with _ | g
    · unfold cutS
      rw [if_pos (by omega)]
    · unfold cutS
      by_cases hz : z ≤ k
      · rw [if_pos hz, if_pos hz]
      · rw [if_neg hz, if_neg hz]
        have t := tkE_gt (T := T) (z := z) (k := k) (by omega)
        by_cases hb : T k = 10 ∨ T k = 32
        · rw [if_pos hb, if_pos hb]
          exact ih g (k + 1) (by omega) (by omega)
        · rw [if_neg hb, if_neg hb, ih g (tkE T z k) (by omega) (by omega)]
theorem rE_f {p : Nat → Bool} {T : Nat → Nat} {z : Nat} : ∀ f g k, z ≤ k + f → z ≤ k + g → rE p T z f k = rE p T z g k := by
  intro f
  induction f with
  | zero =>
    intro g k h1 h2
    rcases g with _ | g
    · rfl
    · unfold rE
      rw [if_neg (fun q => by omega)]
  | succ f ih =>
    intro g k h1 h2
    rcases g with _ | g
    · unfold rE
      rw [if_neg (fun q => by omega)]
    · unfold rE
      by_cases c : k < z ∧ p (T k) = true
      · rw [if_pos c, if_pos c]
        exact ih g (k + 1) (by omega) (by omega)
      · rw [if_neg c, if_neg c]
/-- the next token, behind blanks -/
theorem cutS_sk {T : Nat → Nat} {z : Nat} {G : Nat → List Nat} (hG : ∀ k, G k = cutS T z z k) : ∀ f k R, z ≤ k + f → k ≤ z → rE blB T z f k = R → cutS T z f k = if R = z then [] else R :: G (tkE T z R) := by
  intro f
  induction f with
  | zero =>
    intro k R h1 h2 e
    unfold rE at e
    unfold cutS
    rw [if_pos (by omega)]
  | succ f ih =>
    intro k R h1 h2 e
    unfold rE at e
    unfold cutS
    by_cases hz : z ≤ k
    · rw [if_neg (fun q => by omega)] at e
      rw [if_pos hz, if_pos (by omega)]
    · rw [if_neg hz]
      by_cases hb : T k = 10 ∨ T k = 32
      · rw [if_pos ⟨by omega, by simp [blB]; exact hb⟩] at e
        rw [if_pos hb]
        exact ih (k + 1) R (by omega) (by omega) e
      · have t := tkE_gt (T := T) (z := z) (k := k) (by omega)
        rw [if_neg (fun q => hb (by simpa [blB] using q.2))] at e
        subst e
        rw [if_neg hb, if_neg (by omega), hG, cutS_f f z (tkE T z k) (by omega) (by omega)]
theorem rE_stop {p : Nat → Bool} {T : Nat → Nat} {z : Nat} : ∀ f k, z ≤ k + f → rE p T z f k < z → p (T (rE p T z f k)) = false := by
  intro f
  induction f with
  | zero => intro k h1 h2; unfold rE at h2; omega
  | succ f ih =>
    intro k h1 h2
    unfold rE at h2 ⊢
    by_cases c : k < z ∧ p (T k) = true
    · rw [if_pos c] at h2 ⊢
      exact ih (k + 1) (by omega) h2
    · rw [if_neg c] at h2 ⊢
      rcases q : p (T k)
      · rfl
      · exact absurd ⟨h2, q⟩ c
/-- what cut leaves: tokens and places -/
def CUT (h : gHp) (z : Nat → Nat) (C P : Nat → Nat) (nE : Nat) : Prop := ∀ i, i ≤ nE → hA h 12 (z 2) i = tkI (C i) ∧ hA h 12 (z 3) i = nI (P i)
section CLSK
variable {B : gB} {h : gHp} {d n : Nat} {Q : Option Value → gHp → Prop} {z T : Nat → Nat} {sK sV : Nat → Nat} {C P : Nat → Nat} {nE : Nat}
/-- a write of tokens or places -/
theorem TAP.A {e : Nat} {f : Nat → Int32} (ht : TAP h z n T) (he : e = 2 ∨ e = 3) : TAP (sA h 12 (z e) f) z n T := by
  obtain ⟨h0, hn, aT, bT⟩ := ht
  exact ⟨h0, hn, fun k hk => by rw [hA_sA, up2_eq, if_neg (by omega)]; exact aT k hk, bT⟩
set_option maxRecDepth 100000 in
set_option maxHeartbeats 3200000 in
theorem x_cut_loop {h0 : gHp} {L : List Nat} (hX : gXs B sK sV) (hz : ¬ z 2 = z 3) (hLn : L.length ≤ n) (hq : ∀ h', FRM [] [(12, z 2), (12, z 3)] h0 h' → TAP h' z n T → CUT h' z (tkC T n L) (tkP n L) L.length → Q none h') : ∀ q at0 M h, n ≤ at0 + q → at0 ≤ n → FRM [] [(12, z 2), (12, z 3)] h0 h → TAP h z n T → M ++ cutS T n n at0 = L → (∀ i, i < M.length → hA h 12 (z 2) i = tkI (tkC T n L i) ∧ hA h 12 (z 3) i = nI (tkP n L i)) → gG B mX6_cut (d + 8) 0 0 4 [(0, .ref (z 0)), (1, .int (nI at0)), (2, .int (nI M.length))] [] h Q := by
  have hz2 : ¬ z 3 = z 2 := fun q => hz q.symm
  intro q
  induction q with
  | zero =>
    intro at0 M h h1 h2 hf ht eM hM
    have ht' := ht
    obtain ⟨⟨k0, r0, r2, r3, k4, n4, k2, n2, k3, n3, i1⟩, hn, aT, bT⟩ := ht
    have ea : at0 = n := by omega
    subst ea
    have e0 : cutS T at0 at0 at0 = [] := by
      rcases at0 with _ | k
      · rfl
      · unfold cutS; rw [if_pos (by omega)]
    rw [e0, List.append_nil] at eM
    subst eM
    have eC : tkI (tkC T at0 M M.length) = -16 := by rw [tkC_0]; rfl
    have eP : tkP at0 M M.length = at0 := by unfold tkP; rw [if_neg (by omega)]
    refine gAx (cut := []) okX6_cut 60 ?_
    simp only [axC_nil, axC_hit, axC_def, cutAt, lvLive, Option.isSome_none, Option.isSome_some, catS, lvGet, lvIns, lvSet1, lvSet2, gLit_0, gLit_1, lv_args, fv0, fv1, fv2, fv3, isI_s, isL_s, isRf_s, isRf_n, gtI_s, gtL_s, gtV_s, gFilter_nil, gFilter_cons, gL1, gL2, gL3, gL4, gL5, va_rf_s, va_rf_n, hK_sI, hK_sR, hK_sA, hK_sJ, hK_sO, hI_sI, hI_sR, hI_sA, hI_sJ, hI_sO, hR_sI, hR_sR, hR_sA, hR_sJ, hR_sO, hN_sI, hN_sR, hN_sA, hN_sJ, hN_sO, hA_sI, hA_sR, hA_sA, hA_sJ, hA_sO, hJ_sI, hJ_sR, hJ_sA, hJ_sJ, hJ_sO, hO_sI, hO_sR, hO_sA, hO_sJ, hO_sO, up3_eq, up2_eq, List.map_cons, List.map_nil, List.sum_cons, List.sum_nil, List.nil_append, List.cons_append, Option.toList_some, Option.toList_none, true_and, and_true, if_true, if_false, and_self, true_or, or_true, or_false, false_or, false_and, and_false, not_true_eq_false, not_false_eq_true, forall_const, reduceCtorEq, implies_true, List.contains_cons, List.contains_nil, Bool.or_false, Bool.false_or, Bool.or_true, Bool.true_or, Bool.and_true, Bool.true_and, Bool.and_false, Bool.false_and, Bool.not_true, Bool.not_false, BEq.rfl, Bool.false_eq_true, Bool.true_eq_false, eq_self, ↓reduceIte, Nat.reduceAdd, Nat.reduceEqDiff, Nat.reduceBEq, Nat.reduceLT, Nat.reduceLeDiff, Nat.reduceSub, Nat.reduceMul, Nat.reduceBNe, List.append_nil, Nat.zero_le, Nat.zero_add, Nat.zero_ne_one, Nat.one_ne_zero, false_implies, true_implies, not_false_eq_true, ne_eq, upd_e, updL_e, bI_zo, nI0z, nI1o, nI1z, nI0o, nI0q, nI1q, nm1_lt, nm1_ge, ax_iconst tX6_cut_0, ax_istore_n tX6_cut_1, ax_iconst tX6_cut_2, ax_istore_n tX6_cut_3, ax_iload_n tX6_cut_4, ax_sipush tX6_cut_5, ax_icmp_gt tX6_cut_8, ax_aload_n tX6_cut_11, ax_iload_n tX6_cut_12, ax_callV1 tX6_cut_13, ax_istore_n tX6_cut_16, ax_aload_n tX6_cut_17, ax_iload_n tX6_cut_18, ax_callV1 tX6_cut_19, ax_istore tX6_cut_22, ax_aload_n tX6_cut_24, ax_getR tX6_cut_25, ax_iload_n tX6_cut_28, ax_aload_n tX6_cut_29, ax_iload_n tX6_cut_30, ax_iload tX6_cut_31, ax_callV2 tX6_cut_33, ax_iastore tX6_cut_36, ax_aload_n tX6_cut_37, ax_getR tX6_cut_38, ax_iload_n tX6_cut_41, ax_iload_n tX6_cut_42, ax_iastore tX6_cut_43, ax_aload_n tX6_cut_44, ax_getR tX6_cut_45, ax_iload_n tX6_cut_48, ax_iaload tX6_cut_49, ax_bipush tX6_cut_50, ax_icmp_ne tX6_cut_52, ax_vret tX6_cut_55, ax_iload tX6_cut_56, ax_istore_n tX6_cut_58, ax_iinc tX6_cut_59, ax_goto tX6_cut_62, ax_vret tX6_cut_65, f_40, f_41, f_44, k0]
    simp (disch := omega) only [z0, o1, nI_add, pk_mul, nI_ltI, nI_leI, nI_eq, nI_clamp, vpn, pk_sub, Nat.add_sub_cancel, bI_0, bI_1, eq_self, true_or, or_true, or_false, false_or, true_and, and_true, false_and, and_false, and_self, or_self, forall_const, not_true_eq_false, not_false_eq_true, false_implies, implies_true, true_implies, ↓reduceIte, if_true, if_false, Nat.not_lt_zero, Nat.zero_le, Nat.le_refl, Nat.lt_irrefl, ne_eq, reduceCtorEq, Bool.false_eq_true]
    refine ⟨fun c => absurd c (by omega), fun _ => ?_⟩
    refine x_skipBlanks (d := d + 6) ht' (by omega) ?_
    rw [show rE blB T at0 (at0 - at0) at0 = at0 by rw [Nat.sub_self]; rfl]
    refine gAx (cut := []) okX6_cut 60 ?_
    simp only [axC_nil, axC_hit, axC_def, cutAt, lvLive, Option.isSome_none, Option.isSome_some, catS, lvGet, lvIns, lvSet1, lvSet2, gLit_0, gLit_1, lv_args, fv0, fv1, fv2, fv3, isI_s, isL_s, isRf_s, isRf_n, gtI_s, gtL_s, gtV_s, gFilter_nil, gFilter_cons, gL1, gL2, gL3, gL4, gL5, va_rf_s, va_rf_n, hK_sI, hK_sR, hK_sA, hK_sJ, hK_sO, hI_sI, hI_sR, hI_sA, hI_sJ, hI_sO, hR_sI, hR_sR, hR_sA, hR_sJ, hR_sO, hN_sI, hN_sR, hN_sA, hN_sJ, hN_sO, hA_sI, hA_sR, hA_sA, hA_sJ, hA_sO, hJ_sI, hJ_sR, hJ_sA, hJ_sJ, hJ_sO, hO_sI, hO_sR, hO_sA, hO_sJ, hO_sO, up3_eq, up2_eq, List.map_cons, List.map_nil, List.sum_cons, List.sum_nil, List.nil_append, List.cons_append, Option.toList_some, Option.toList_none, true_and, and_true, if_true, if_false, and_self, true_or, or_true, or_false, false_or, false_and, and_false, not_true_eq_false, not_false_eq_true, forall_const, reduceCtorEq, implies_true, List.contains_cons, List.contains_nil, Bool.or_false, Bool.false_or, Bool.or_true, Bool.true_or, Bool.and_true, Bool.true_and, Bool.and_false, Bool.false_and, Bool.not_true, Bool.not_false, BEq.rfl, Bool.false_eq_true, Bool.true_eq_false, eq_self, ↓reduceIte, Nat.reduceAdd, Nat.reduceEqDiff, Nat.reduceBEq, Nat.reduceLT, Nat.reduceLeDiff, Nat.reduceSub, Nat.reduceMul, Nat.reduceBNe, List.append_nil, Nat.zero_le, Nat.zero_add, Nat.zero_ne_one, Nat.one_ne_zero, false_implies, true_implies, not_false_eq_true, ne_eq, upd_e, updL_e, bI_zo, nI0z, nI1o, nI1z, nI0o, nI0q, nI1q, nm1_lt, nm1_ge, ax_iconst tX6_cut_0, ax_istore_n tX6_cut_1, ax_iconst tX6_cut_2, ax_istore_n tX6_cut_3, ax_iload_n tX6_cut_4, ax_sipush tX6_cut_5, ax_icmp_gt tX6_cut_8, ax_aload_n tX6_cut_11, ax_iload_n tX6_cut_12, ax_callV1 tX6_cut_13, ax_istore_n tX6_cut_16, ax_aload_n tX6_cut_17, ax_iload_n tX6_cut_18, ax_callV1 tX6_cut_19, ax_istore tX6_cut_22, ax_aload_n tX6_cut_24, ax_getR tX6_cut_25, ax_iload_n tX6_cut_28, ax_aload_n tX6_cut_29, ax_iload_n tX6_cut_30, ax_iload tX6_cut_31, ax_callV2 tX6_cut_33, ax_iastore tX6_cut_36, ax_aload_n tX6_cut_37, ax_getR tX6_cut_38, ax_iload_n tX6_cut_41, ax_iload_n tX6_cut_42, ax_iastore tX6_cut_43, ax_aload_n tX6_cut_44, ax_getR tX6_cut_45, ax_iload_n tX6_cut_48, ax_iaload tX6_cut_49, ax_bipush tX6_cut_50, ax_icmp_ne tX6_cut_52, ax_vret tX6_cut_55, ax_iload tX6_cut_56, ax_istore_n tX6_cut_58, ax_iinc tX6_cut_59, ax_goto tX6_cut_62, ax_vret tX6_cut_65, f_40, f_41, f_44, k0]
    refine x_endOfToken_n (d := d + 5) ht' ?_
    refine gAx (cut := []) okX6_cut 60 ?_
    simp only [axC_nil, axC_hit, axC_def, cutAt, lvLive, Option.isSome_none, Option.isSome_some, catS, lvGet, lvIns, lvSet1, lvSet2, gLit_0, gLit_1, lv_args, fv0, fv1, fv2, fv3, isI_s, isL_s, isRf_s, isRf_n, gtI_s, gtL_s, gtV_s, gFilter_nil, gFilter_cons, gL1, gL2, gL3, gL4, gL5, va_rf_s, va_rf_n, hK_sI, hK_sR, hK_sA, hK_sJ, hK_sO, hI_sI, hI_sR, hI_sA, hI_sJ, hI_sO, hR_sI, hR_sR, hR_sA, hR_sJ, hR_sO, hN_sI, hN_sR, hN_sA, hN_sJ, hN_sO, hA_sI, hA_sR, hA_sA, hA_sJ, hA_sO, hJ_sI, hJ_sR, hJ_sA, hJ_sJ, hJ_sO, hO_sI, hO_sR, hO_sA, hO_sJ, hO_sO, up3_eq, up2_eq, List.map_cons, List.map_nil, List.sum_cons, List.sum_nil, List.nil_append, List.cons_append, Option.toList_some, Option.toList_none, true_and, and_true, if_true, if_false, and_self, true_or, or_true, or_false, false_or, false_and, and_false, not_true_eq_false, not_false_eq_true, forall_const, reduceCtorEq, implies_true, List.contains_cons, List.contains_nil, Bool.or_false, Bool.false_or, Bool.or_true, Bool.true_or, Bool.and_true, Bool.true_and, Bool.and_false, Bool.false_and, Bool.not_true, Bool.not_false, BEq.rfl, Bool.false_eq_true, Bool.true_eq_false, eq_self, ↓reduceIte, Nat.reduceAdd, Nat.reduceEqDiff, Nat.reduceBEq, Nat.reduceLT, Nat.reduceLeDiff, Nat.reduceSub, Nat.reduceMul, Nat.reduceBNe, List.append_nil, Nat.zero_le, Nat.zero_add, Nat.zero_ne_one, Nat.one_ne_zero, false_implies, true_implies, not_false_eq_true, ne_eq, upd_e, updL_e, bI_zo, nI0z, nI1o, nI1z, nI0o, nI0q, nI1q, nm1_lt, nm1_ge, ax_iconst tX6_cut_0, ax_istore_n tX6_cut_1, ax_iconst tX6_cut_2, ax_istore_n tX6_cut_3, ax_iload_n tX6_cut_4, ax_sipush tX6_cut_5, ax_icmp_gt tX6_cut_8, ax_aload_n tX6_cut_11, ax_iload_n tX6_cut_12, ax_callV1 tX6_cut_13, ax_istore_n tX6_cut_16, ax_aload_n tX6_cut_17, ax_iload_n tX6_cut_18, ax_callV1 tX6_cut_19, ax_istore tX6_cut_22, ax_aload_n tX6_cut_24, ax_getR tX6_cut_25, ax_iload_n tX6_cut_28, ax_aload_n tX6_cut_29, ax_iload_n tX6_cut_30, ax_iload tX6_cut_31, ax_callV2 tX6_cut_33, ax_iastore tX6_cut_36, ax_aload_n tX6_cut_37, ax_getR tX6_cut_38, ax_iload_n tX6_cut_41, ax_iload_n tX6_cut_42, ax_iastore tX6_cut_43, ax_aload_n tX6_cut_44, ax_getR tX6_cut_45, ax_iload_n tX6_cut_48, ax_iaload tX6_cut_49, ax_bipush tX6_cut_50, ax_icmp_ne tX6_cut_52, ax_vret tX6_cut_55, ax_iload tX6_cut_56, ax_istore_n tX6_cut_58, ax_iinc tX6_cut_59, ax_goto tX6_cut_62, ax_vret tX6_cut_65, f_40, f_41, f_44, k0, r2]
    refine x_kindOf_n ht' (by omega) ?_
    refine gAx (cut := []) okX6_cut 60 ?_
    simp only [axC_nil, axC_hit, axC_def, cutAt, lvLive, Option.isSome_none, Option.isSome_some, catS, lvGet, lvIns, lvSet1, lvSet2, gLit_0, gLit_1, lv_args, fv0, fv1, fv2, fv3, isI_s, isL_s, isRf_s, isRf_n, gtI_s, gtL_s, gtV_s, gFilter_nil, gFilter_cons, gL1, gL2, gL3, gL4, gL5, va_rf_s, va_rf_n, hK_sI, hK_sR, hK_sA, hK_sJ, hK_sO, hI_sI, hI_sR, hI_sA, hI_sJ, hI_sO, hR_sI, hR_sR, hR_sA, hR_sJ, hR_sO, hN_sI, hN_sR, hN_sA, hN_sJ, hN_sO, hA_sI, hA_sR, hA_sA, hA_sJ, hA_sO, hJ_sI, hJ_sR, hJ_sA, hJ_sJ, hJ_sO, hO_sI, hO_sR, hO_sA, hO_sJ, hO_sO, up3_eq, up2_eq, List.map_cons, List.map_nil, List.sum_cons, List.sum_nil, List.nil_append, List.cons_append, Option.toList_some, Option.toList_none, true_and, and_true, if_true, if_false, and_self, true_or, or_true, or_false, false_or, false_and, and_false, not_true_eq_false, not_false_eq_true, forall_const, reduceCtorEq, implies_true, List.contains_cons, List.contains_nil, Bool.or_false, Bool.false_or, Bool.or_true, Bool.true_or, Bool.and_true, Bool.true_and, Bool.and_false, Bool.false_and, Bool.not_true, Bool.not_false, BEq.rfl, Bool.false_eq_true, Bool.true_eq_false, eq_self, ↓reduceIte, Nat.reduceAdd, Nat.reduceEqDiff, Nat.reduceBEq, Nat.reduceLT, Nat.reduceLeDiff, Nat.reduceSub, Nat.reduceMul, Nat.reduceBNe, List.append_nil, Nat.zero_le, Nat.zero_add, Nat.zero_ne_one, Nat.one_ne_zero, false_implies, true_implies, not_false_eq_true, ne_eq, upd_e, updL_e, bI_zo, nI0z, nI1o, nI1z, nI0o, nI0q, nI1q, nm1_lt, nm1_ge, ax_iconst tX6_cut_0, ax_istore_n tX6_cut_1, ax_iconst tX6_cut_2, ax_istore_n tX6_cut_3, ax_iload_n tX6_cut_4, ax_sipush tX6_cut_5, ax_icmp_gt tX6_cut_8, ax_aload_n tX6_cut_11, ax_iload_n tX6_cut_12, ax_callV1 tX6_cut_13, ax_istore_n tX6_cut_16, ax_aload_n tX6_cut_17, ax_iload_n tX6_cut_18, ax_callV1 tX6_cut_19, ax_istore tX6_cut_22, ax_aload_n tX6_cut_24, ax_getR tX6_cut_25, ax_iload_n tX6_cut_28, ax_aload_n tX6_cut_29, ax_iload_n tX6_cut_30, ax_iload tX6_cut_31, ax_callV2 tX6_cut_33, ax_iastore tX6_cut_36, ax_aload_n tX6_cut_37, ax_getR tX6_cut_38, ax_iload_n tX6_cut_41, ax_iload_n tX6_cut_42, ax_iastore tX6_cut_43, ax_aload_n tX6_cut_44, ax_getR tX6_cut_45, ax_iload_n tX6_cut_48, ax_iaload tX6_cut_49, ax_bipush tX6_cut_50, ax_icmp_ne tX6_cut_52, ax_vret tX6_cut_55, ax_iload tX6_cut_56, ax_istore_n tX6_cut_58, ax_iinc tX6_cut_59, ax_goto tX6_cut_62, ax_vret tX6_cut_65, f_40, f_41, f_44, k0, r2, r3, k2, n2, k3, n3, hz, hz2]
    simp (disch := omega) only [z0, o1, nI_add, pk_mul, nI_ltI, nI_leI, nI_eq, nI_clamp, vpn, pk_sub, Nat.add_sub_cancel, bI_0, bI_1, eq_self, true_or, or_true, or_false, false_or, true_and, and_true, false_and, and_false, and_self, or_self, forall_const, not_true_eq_false, not_false_eq_true, false_implies, implies_true, true_implies, ↓reduceIte, if_true, if_false, Nat.not_lt_zero, Nat.zero_le, Nat.le_refl, Nat.lt_irrefl, ne_eq, reduceCtorEq, Bool.false_eq_true]
    refine ⟨by omega, by omega, by omega, fun c => absurd rfl c, fun _ => hq _ ((hf.sA (by simp)).sA (by simp)) ((ht'.A (e := 2) (Or.inl rfl)).A (e := 3) (Or.inr rfl)) (fun i hi => ?_)⟩
    simp only [hA_sA, up2_eq, hz, hz2, and_false, if_false, and_self, if_true, upd_e]
    by_cases ei : i = M.length
    · rw [if_pos ei, if_pos ei, ei, eC, eP]
      exact ⟨rfl, rfl⟩
    · rw [if_neg ei, if_neg ei]
      exact hM i (by omega)
  | succ q ih =>
    intro at0 M h h1 h2 hf ht eM hM
    have ht' := ht
    obtain ⟨⟨k0, r0, r2, r3, k4, n4, k2, n2, k3, n3, i1⟩, hn, aT, bT⟩ := ht
    have sk := cutS_sk (T := T) (z := n) (G := cutS T n n) (fun _ => rfl) n at0 _ (by omega) h2 (rE_f (p := blB) n (n - at0) at0 (by omega) (by omega))
    have st := rE_stop (p := blB) (T := T) (z := n) (n - at0) at0 (by omega)
    have lb := rE_le blB T n (n - at0) at0 h2
    generalize hb : rE blB T n (n - at0) at0 = b at sk st lb
    rw [sk] at eM
    have hMl : M.length ≤ L.length := by rw [← eM]; simp
    refine gAx (cut := []) okX6_cut 60 ?_
    simp only [axC_nil, axC_hit, axC_def, cutAt, lvLive, Option.isSome_none, Option.isSome_some, catS, lvGet, lvIns, lvSet1, lvSet2, gLit_0, gLit_1, lv_args, fv0, fv1, fv2, fv3, isI_s, isL_s, isRf_s, isRf_n, gtI_s, gtL_s, gtV_s, gFilter_nil, gFilter_cons, gL1, gL2, gL3, gL4, gL5, va_rf_s, va_rf_n, hK_sI, hK_sR, hK_sA, hK_sJ, hK_sO, hI_sI, hI_sR, hI_sA, hI_sJ, hI_sO, hR_sI, hR_sR, hR_sA, hR_sJ, hR_sO, hN_sI, hN_sR, hN_sA, hN_sJ, hN_sO, hA_sI, hA_sR, hA_sA, hA_sJ, hA_sO, hJ_sI, hJ_sR, hJ_sA, hJ_sJ, hJ_sO, hO_sI, hO_sR, hO_sA, hO_sJ, hO_sO, up3_eq, up2_eq, List.map_cons, List.map_nil, List.sum_cons, List.sum_nil, List.nil_append, List.cons_append, Option.toList_some, Option.toList_none, true_and, and_true, if_true, if_false, and_self, true_or, or_true, or_false, false_or, false_and, and_false, not_true_eq_false, not_false_eq_true, forall_const, reduceCtorEq, implies_true, List.contains_cons, List.contains_nil, Bool.or_false, Bool.false_or, Bool.or_true, Bool.true_or, Bool.and_true, Bool.true_and, Bool.and_false, Bool.false_and, Bool.not_true, Bool.not_false, BEq.rfl, Bool.false_eq_true, Bool.true_eq_false, eq_self, ↓reduceIte, Nat.reduceAdd, Nat.reduceEqDiff, Nat.reduceBEq, Nat.reduceLT, Nat.reduceLeDiff, Nat.reduceSub, Nat.reduceMul, Nat.reduceBNe, List.append_nil, Nat.zero_le, Nat.zero_add, Nat.zero_ne_one, Nat.one_ne_zero, false_implies, true_implies, not_false_eq_true, ne_eq, upd_e, updL_e, bI_zo, nI0z, nI1o, nI1z, nI0o, nI0q, nI1q, nm1_lt, nm1_ge, ax_iconst tX6_cut_0, ax_istore_n tX6_cut_1, ax_iconst tX6_cut_2, ax_istore_n tX6_cut_3, ax_iload_n tX6_cut_4, ax_sipush tX6_cut_5, ax_icmp_gt tX6_cut_8, ax_aload_n tX6_cut_11, ax_iload_n tX6_cut_12, ax_callV1 tX6_cut_13, ax_istore_n tX6_cut_16, ax_aload_n tX6_cut_17, ax_iload_n tX6_cut_18, ax_callV1 tX6_cut_19, ax_istore tX6_cut_22, ax_aload_n tX6_cut_24, ax_getR tX6_cut_25, ax_iload_n tX6_cut_28, ax_aload_n tX6_cut_29, ax_iload_n tX6_cut_30, ax_iload tX6_cut_31, ax_callV2 tX6_cut_33, ax_iastore tX6_cut_36, ax_aload_n tX6_cut_37, ax_getR tX6_cut_38, ax_iload_n tX6_cut_41, ax_iload_n tX6_cut_42, ax_iastore tX6_cut_43, ax_aload_n tX6_cut_44, ax_getR tX6_cut_45, ax_iload_n tX6_cut_48, ax_iaload tX6_cut_49, ax_bipush tX6_cut_50, ax_icmp_ne tX6_cut_52, ax_vret tX6_cut_55, ax_iload tX6_cut_56, ax_istore_n tX6_cut_58, ax_iinc tX6_cut_59, ax_goto tX6_cut_62, ax_vret tX6_cut_65, f_40, f_41, f_44, k0]
    simp (disch := omega) only [z0, o1, nI_add, pk_mul, nI_ltI, nI_leI, nI_eq, nI_clamp, vpn, pk_sub, Nat.add_sub_cancel, bI_0, bI_1, eq_self, true_or, or_true, or_false, false_or, true_and, and_true, false_and, and_false, and_self, or_self, forall_const, not_true_eq_false, not_false_eq_true, false_implies, implies_true, true_implies, ↓reduceIte, if_true, if_false, Nat.not_lt_zero, Nat.zero_le, Nat.le_refl, Nat.lt_irrefl, ne_eq, reduceCtorEq, Bool.false_eq_true]
    refine ⟨fun c => absurd c (by omega), fun _ => ?_⟩
    refine x_skipBlanks (d := d + 6) ht' h2 ?_
    rw [hb]
    refine gAx (cut := []) okX6_cut 60 ?_
    simp only [axC_nil, axC_hit, axC_def, cutAt, lvLive, Option.isSome_none, Option.isSome_some, catS, lvGet, lvIns, lvSet1, lvSet2, gLit_0, gLit_1, lv_args, fv0, fv1, fv2, fv3, isI_s, isL_s, isRf_s, isRf_n, gtI_s, gtL_s, gtV_s, gFilter_nil, gFilter_cons, gL1, gL2, gL3, gL4, gL5, va_rf_s, va_rf_n, hK_sI, hK_sR, hK_sA, hK_sJ, hK_sO, hI_sI, hI_sR, hI_sA, hI_sJ, hI_sO, hR_sI, hR_sR, hR_sA, hR_sJ, hR_sO, hN_sI, hN_sR, hN_sA, hN_sJ, hN_sO, hA_sI, hA_sR, hA_sA, hA_sJ, hA_sO, hJ_sI, hJ_sR, hJ_sA, hJ_sJ, hJ_sO, hO_sI, hO_sR, hO_sA, hO_sJ, hO_sO, up3_eq, up2_eq, List.map_cons, List.map_nil, List.sum_cons, List.sum_nil, List.nil_append, List.cons_append, Option.toList_some, Option.toList_none, true_and, and_true, if_true, if_false, and_self, true_or, or_true, or_false, false_or, false_and, and_false, not_true_eq_false, not_false_eq_true, forall_const, reduceCtorEq, implies_true, List.contains_cons, List.contains_nil, Bool.or_false, Bool.false_or, Bool.or_true, Bool.true_or, Bool.and_true, Bool.true_and, Bool.and_false, Bool.false_and, Bool.not_true, Bool.not_false, BEq.rfl, Bool.false_eq_true, Bool.true_eq_false, eq_self, ↓reduceIte, Nat.reduceAdd, Nat.reduceEqDiff, Nat.reduceBEq, Nat.reduceLT, Nat.reduceLeDiff, Nat.reduceSub, Nat.reduceMul, Nat.reduceBNe, List.append_nil, Nat.zero_le, Nat.zero_add, Nat.zero_ne_one, Nat.one_ne_zero, false_implies, true_implies, not_false_eq_true, ne_eq, upd_e, updL_e, bI_zo, nI0z, nI1o, nI1z, nI0o, nI0q, nI1q, nm1_lt, nm1_ge, ax_iconst tX6_cut_0, ax_istore_n tX6_cut_1, ax_iconst tX6_cut_2, ax_istore_n tX6_cut_3, ax_iload_n tX6_cut_4, ax_sipush tX6_cut_5, ax_icmp_gt tX6_cut_8, ax_aload_n tX6_cut_11, ax_iload_n tX6_cut_12, ax_callV1 tX6_cut_13, ax_istore_n tX6_cut_16, ax_aload_n tX6_cut_17, ax_iload_n tX6_cut_18, ax_callV1 tX6_cut_19, ax_istore tX6_cut_22, ax_aload_n tX6_cut_24, ax_getR tX6_cut_25, ax_iload_n tX6_cut_28, ax_aload_n tX6_cut_29, ax_iload_n tX6_cut_30, ax_iload tX6_cut_31, ax_callV2 tX6_cut_33, ax_iastore tX6_cut_36, ax_aload_n tX6_cut_37, ax_getR tX6_cut_38, ax_iload_n tX6_cut_41, ax_iload_n tX6_cut_42, ax_iastore tX6_cut_43, ax_aload_n tX6_cut_44, ax_getR tX6_cut_45, ax_iload_n tX6_cut_48, ax_iaload tX6_cut_49, ax_bipush tX6_cut_50, ax_icmp_ne tX6_cut_52, ax_vret tX6_cut_55, ax_iload tX6_cut_56, ax_istore_n tX6_cut_58, ax_iinc tX6_cut_59, ax_goto tX6_cut_62, ax_vret tX6_cut_65, f_40, f_41, f_44, k0]
    by_cases ebn : b = n
    · rw [if_pos ebn, List.append_nil] at eM
      subst eM
      rw [ebn]
      have eC : tkI (tkC T n M M.length) = -16 := by rw [tkC_0]; rfl
      have eP : tkP n M M.length = n := by unfold tkP; rw [if_neg (by omega)]
      refine x_endOfToken_n (d := d + 5) ht' ?_
      refine gAx (cut := []) okX6_cut 60 ?_
      simp only [axC_nil, axC_hit, axC_def, cutAt, lvLive, Option.isSome_none, Option.isSome_some, catS, lvGet, lvIns, lvSet1, lvSet2, gLit_0, gLit_1, lv_args, fv0, fv1, fv2, fv3, isI_s, isL_s, isRf_s, isRf_n, gtI_s, gtL_s, gtV_s, gFilter_nil, gFilter_cons, gL1, gL2, gL3, gL4, gL5, va_rf_s, va_rf_n, hK_sI, hK_sR, hK_sA, hK_sJ, hK_sO, hI_sI, hI_sR, hI_sA, hI_sJ, hI_sO, hR_sI, hR_sR, hR_sA, hR_sJ, hR_sO, hN_sI, hN_sR, hN_sA, hN_sJ, hN_sO, hA_sI, hA_sR, hA_sA, hA_sJ, hA_sO, hJ_sI, hJ_sR, hJ_sA, hJ_sJ, hJ_sO, hO_sI, hO_sR, hO_sA, hO_sJ, hO_sO, up3_eq, up2_eq, List.map_cons, List.map_nil, List.sum_cons, List.sum_nil, List.nil_append, List.cons_append, Option.toList_some, Option.toList_none, true_and, and_true, if_true, if_false, and_self, true_or, or_true, or_false, false_or, false_and, and_false, not_true_eq_false, not_false_eq_true, forall_const, reduceCtorEq, implies_true, List.contains_cons, List.contains_nil, Bool.or_false, Bool.false_or, Bool.or_true, Bool.true_or, Bool.and_true, Bool.true_and, Bool.and_false, Bool.false_and, Bool.not_true, Bool.not_false, BEq.rfl, Bool.false_eq_true, Bool.true_eq_false, eq_self, ↓reduceIte, Nat.reduceAdd, Nat.reduceEqDiff, Nat.reduceBEq, Nat.reduceLT, Nat.reduceLeDiff, Nat.reduceSub, Nat.reduceMul, Nat.reduceBNe, List.append_nil, Nat.zero_le, Nat.zero_add, Nat.zero_ne_one, Nat.one_ne_zero, false_implies, true_implies, not_false_eq_true, ne_eq, upd_e, updL_e, bI_zo, nI0z, nI1o, nI1z, nI0o, nI0q, nI1q, nm1_lt, nm1_ge, ax_iconst tX6_cut_0, ax_istore_n tX6_cut_1, ax_iconst tX6_cut_2, ax_istore_n tX6_cut_3, ax_iload_n tX6_cut_4, ax_sipush tX6_cut_5, ax_icmp_gt tX6_cut_8, ax_aload_n tX6_cut_11, ax_iload_n tX6_cut_12, ax_callV1 tX6_cut_13, ax_istore_n tX6_cut_16, ax_aload_n tX6_cut_17, ax_iload_n tX6_cut_18, ax_callV1 tX6_cut_19, ax_istore tX6_cut_22, ax_aload_n tX6_cut_24, ax_getR tX6_cut_25, ax_iload_n tX6_cut_28, ax_aload_n tX6_cut_29, ax_iload_n tX6_cut_30, ax_iload tX6_cut_31, ax_callV2 tX6_cut_33, ax_iastore tX6_cut_36, ax_aload_n tX6_cut_37, ax_getR tX6_cut_38, ax_iload_n tX6_cut_41, ax_iload_n tX6_cut_42, ax_iastore tX6_cut_43, ax_aload_n tX6_cut_44, ax_getR tX6_cut_45, ax_iload_n tX6_cut_48, ax_iaload tX6_cut_49, ax_bipush tX6_cut_50, ax_icmp_ne tX6_cut_52, ax_vret tX6_cut_55, ax_iload tX6_cut_56, ax_istore_n tX6_cut_58, ax_iinc tX6_cut_59, ax_goto tX6_cut_62, ax_vret tX6_cut_65, f_40, f_41, f_44, k0, r2]
      refine x_kindOf_n ht' (by omega) ?_
      refine gAx (cut := []) okX6_cut 60 ?_
      simp only [axC_nil, axC_hit, axC_def, cutAt, lvLive, Option.isSome_none, Option.isSome_some, catS, lvGet, lvIns, lvSet1, lvSet2, gLit_0, gLit_1, lv_args, fv0, fv1, fv2, fv3, isI_s, isL_s, isRf_s, isRf_n, gtI_s, gtL_s, gtV_s, gFilter_nil, gFilter_cons, gL1, gL2, gL3, gL4, gL5, va_rf_s, va_rf_n, hK_sI, hK_sR, hK_sA, hK_sJ, hK_sO, hI_sI, hI_sR, hI_sA, hI_sJ, hI_sO, hR_sI, hR_sR, hR_sA, hR_sJ, hR_sO, hN_sI, hN_sR, hN_sA, hN_sJ, hN_sO, hA_sI, hA_sR, hA_sA, hA_sJ, hA_sO, hJ_sI, hJ_sR, hJ_sA, hJ_sJ, hJ_sO, hO_sI, hO_sR, hO_sA, hO_sJ, hO_sO, up3_eq, up2_eq, List.map_cons, List.map_nil, List.sum_cons, List.sum_nil, List.nil_append, List.cons_append, Option.toList_some, Option.toList_none, true_and, and_true, if_true, if_false, and_self, true_or, or_true, or_false, false_or, false_and, and_false, not_true_eq_false, not_false_eq_true, forall_const, reduceCtorEq, implies_true, List.contains_cons, List.contains_nil, Bool.or_false, Bool.false_or, Bool.or_true, Bool.true_or, Bool.and_true, Bool.true_and, Bool.and_false, Bool.false_and, Bool.not_true, Bool.not_false, BEq.rfl, Bool.false_eq_true, Bool.true_eq_false, eq_self, ↓reduceIte, Nat.reduceAdd, Nat.reduceEqDiff, Nat.reduceBEq, Nat.reduceLT, Nat.reduceLeDiff, Nat.reduceSub, Nat.reduceMul, Nat.reduceBNe, List.append_nil, Nat.zero_le, Nat.zero_add, Nat.zero_ne_one, Nat.one_ne_zero, false_implies, true_implies, not_false_eq_true, ne_eq, upd_e, updL_e, bI_zo, nI0z, nI1o, nI1z, nI0o, nI0q, nI1q, nm1_lt, nm1_ge, ax_iconst tX6_cut_0, ax_istore_n tX6_cut_1, ax_iconst tX6_cut_2, ax_istore_n tX6_cut_3, ax_iload_n tX6_cut_4, ax_sipush tX6_cut_5, ax_icmp_gt tX6_cut_8, ax_aload_n tX6_cut_11, ax_iload_n tX6_cut_12, ax_callV1 tX6_cut_13, ax_istore_n tX6_cut_16, ax_aload_n tX6_cut_17, ax_iload_n tX6_cut_18, ax_callV1 tX6_cut_19, ax_istore tX6_cut_22, ax_aload_n tX6_cut_24, ax_getR tX6_cut_25, ax_iload_n tX6_cut_28, ax_aload_n tX6_cut_29, ax_iload_n tX6_cut_30, ax_iload tX6_cut_31, ax_callV2 tX6_cut_33, ax_iastore tX6_cut_36, ax_aload_n tX6_cut_37, ax_getR tX6_cut_38, ax_iload_n tX6_cut_41, ax_iload_n tX6_cut_42, ax_iastore tX6_cut_43, ax_aload_n tX6_cut_44, ax_getR tX6_cut_45, ax_iload_n tX6_cut_48, ax_iaload tX6_cut_49, ax_bipush tX6_cut_50, ax_icmp_ne tX6_cut_52, ax_vret tX6_cut_55, ax_iload tX6_cut_56, ax_istore_n tX6_cut_58, ax_iinc tX6_cut_59, ax_goto tX6_cut_62, ax_vret tX6_cut_65, f_40, f_41, f_44, k0, r2, r3, k2, n2, k3, n3, hz, hz2]
      simp (disch := omega) only [z0, o1, nI_add, pk_mul, nI_ltI, nI_leI, nI_eq, nI_clamp, vpn, pk_sub, Nat.add_sub_cancel, bI_0, bI_1, eq_self, true_or, or_true, or_false, false_or, true_and, and_true, false_and, and_false, and_self, or_self, forall_const, not_true_eq_false, not_false_eq_true, false_implies, implies_true, true_implies, ↓reduceIte, if_true, if_false, Nat.not_lt_zero, Nat.zero_le, Nat.le_refl, Nat.lt_irrefl, ne_eq, reduceCtorEq, Bool.false_eq_true]
      refine ⟨by omega, by omega, by omega, fun c => absurd rfl c, fun _ => hq _ ((hf.sA (by simp)).sA (by simp)) ((ht'.A (e := 2) (Or.inl rfl)).A (e := 3) (Or.inr rfl)) (fun i hi => ?_)⟩
      simp only [hA_sA, up2_eq, hz, hz2, and_false, if_false, and_self, if_true, upd_e]
      by_cases ei : i = M.length
      · rw [if_pos ei, if_pos ei, ei, eC, eP]
        exact ⟨rfl, rfl⟩
      · rw [if_neg ei, if_neg ei]
        exact hM i (by omega)
    · rw [if_neg ebn] at eM
      have hbn : b < n := by omega
      have te := tkE_gt (T := T) (z := n) hbn
      have hgM : L.getD M.length 0 = b ∧ M.length < L.length := by rw [← eM]; simp
      have eC : tkC T n L M.length = tkc (tkS T n b) (tkV T n b) := by unfold tkC; rw [if_pos hgM.2, hgM.1]
      have eP : tkP n L M.length = b := by unfold tkP; rw [if_pos hgM.2, hgM.1]
      have nz : ¬ tkI (tkc (tkS T n b) (tkV T n b)) = -nI 16 := by
        have v := tkV_lt bT hbn
        have hW := tkW_r (tkV T n b)
        have hG := tkG_r (tkV T n b)
        have c1 : tkc (tkS T n b) (tkV T n b) < 10017 ∧ 0 < tkc (tkS T n b) (tkV T n b) := by
          unfold tkc
          repeat' split
          all_goals omega
        intro e
        have := (tkI_inj _ 0 c1.1 (by omega)).mp (by rw [e]; rfl)
        omega
      refine x_endOfToken (d := d + 5) ht' hbn ?_
      refine gAx (cut := []) okX6_cut 60 ?_
      simp only [axC_nil, axC_hit, axC_def, cutAt, lvLive, Option.isSome_none, Option.isSome_some, catS, lvGet, lvIns, lvSet1, lvSet2, gLit_0, gLit_1, lv_args, fv0, fv1, fv2, fv3, isI_s, isL_s, isRf_s, isRf_n, gtI_s, gtL_s, gtV_s, gFilter_nil, gFilter_cons, gL1, gL2, gL3, gL4, gL5, va_rf_s, va_rf_n, hK_sI, hK_sR, hK_sA, hK_sJ, hK_sO, hI_sI, hI_sR, hI_sA, hI_sJ, hI_sO, hR_sI, hR_sR, hR_sA, hR_sJ, hR_sO, hN_sI, hN_sR, hN_sA, hN_sJ, hN_sO, hA_sI, hA_sR, hA_sA, hA_sJ, hA_sO, hJ_sI, hJ_sR, hJ_sA, hJ_sJ, hJ_sO, hO_sI, hO_sR, hO_sA, hO_sJ, hO_sO, up3_eq, up2_eq, List.map_cons, List.map_nil, List.sum_cons, List.sum_nil, List.nil_append, List.cons_append, Option.toList_some, Option.toList_none, true_and, and_true, if_true, if_false, and_self, true_or, or_true, or_false, false_or, false_and, and_false, not_true_eq_false, not_false_eq_true, forall_const, reduceCtorEq, implies_true, List.contains_cons, List.contains_nil, Bool.or_false, Bool.false_or, Bool.or_true, Bool.true_or, Bool.and_true, Bool.true_and, Bool.and_false, Bool.false_and, Bool.not_true, Bool.not_false, BEq.rfl, Bool.false_eq_true, Bool.true_eq_false, eq_self, ↓reduceIte, Nat.reduceAdd, Nat.reduceEqDiff, Nat.reduceBEq, Nat.reduceLT, Nat.reduceLeDiff, Nat.reduceSub, Nat.reduceMul, Nat.reduceBNe, List.append_nil, Nat.zero_le, Nat.zero_add, Nat.zero_ne_one, Nat.one_ne_zero, false_implies, true_implies, not_false_eq_true, ne_eq, upd_e, updL_e, bI_zo, nI0z, nI1o, nI1z, nI0o, nI0q, nI1q, nm1_lt, nm1_ge, ax_iconst tX6_cut_0, ax_istore_n tX6_cut_1, ax_iconst tX6_cut_2, ax_istore_n tX6_cut_3, ax_iload_n tX6_cut_4, ax_sipush tX6_cut_5, ax_icmp_gt tX6_cut_8, ax_aload_n tX6_cut_11, ax_iload_n tX6_cut_12, ax_callV1 tX6_cut_13, ax_istore_n tX6_cut_16, ax_aload_n tX6_cut_17, ax_iload_n tX6_cut_18, ax_callV1 tX6_cut_19, ax_istore tX6_cut_22, ax_aload_n tX6_cut_24, ax_getR tX6_cut_25, ax_iload_n tX6_cut_28, ax_aload_n tX6_cut_29, ax_iload_n tX6_cut_30, ax_iload tX6_cut_31, ax_callV2 tX6_cut_33, ax_iastore tX6_cut_36, ax_aload_n tX6_cut_37, ax_getR tX6_cut_38, ax_iload_n tX6_cut_41, ax_iload_n tX6_cut_42, ax_iastore tX6_cut_43, ax_aload_n tX6_cut_44, ax_getR tX6_cut_45, ax_iload_n tX6_cut_48, ax_iaload tX6_cut_49, ax_bipush tX6_cut_50, ax_icmp_ne tX6_cut_52, ax_vret tX6_cut_55, ax_iload tX6_cut_56, ax_istore_n tX6_cut_58, ax_iinc tX6_cut_59, ax_goto tX6_cut_62, ax_vret tX6_cut_65, f_40, f_41, f_44, k0, r2]
      refine x_kindOf hX ht' hbn ?_
      have K := ih (tkE T n b) (M ++ [b])
      refine gAx (cut := [(4, [0, 1, 2])]) okX6_cut 60 ?_
      simp only [axC_nil, axC_hit, axC_def, cutAt, lvLive, Option.isSome_none, Option.isSome_some, catS, lvGet, lvIns, lvSet1, lvSet2, gLit_0, gLit_1, lv_args, fv0, fv1, fv2, fv3, isI_s, isL_s, isRf_s, isRf_n, gtI_s, gtL_s, gtV_s, gFilter_nil, gFilter_cons, gL1, gL2, gL3, gL4, gL5, va_rf_s, va_rf_n, hK_sI, hK_sR, hK_sA, hK_sJ, hK_sO, hI_sI, hI_sR, hI_sA, hI_sJ, hI_sO, hR_sI, hR_sR, hR_sA, hR_sJ, hR_sO, hN_sI, hN_sR, hN_sA, hN_sJ, hN_sO, hA_sI, hA_sR, hA_sA, hA_sJ, hA_sO, hJ_sI, hJ_sR, hJ_sA, hJ_sJ, hJ_sO, hO_sI, hO_sR, hO_sA, hO_sJ, hO_sO, up3_eq, up2_eq, List.map_cons, List.map_nil, List.sum_cons, List.sum_nil, List.nil_append, List.cons_append, Option.toList_some, Option.toList_none, true_and, and_true, if_true, if_false, and_self, true_or, or_true, or_false, false_or, false_and, and_false, not_true_eq_false, not_false_eq_true, forall_const, reduceCtorEq, implies_true, List.contains_cons, List.contains_nil, Bool.or_false, Bool.false_or, Bool.or_true, Bool.true_or, Bool.and_true, Bool.true_and, Bool.and_false, Bool.false_and, Bool.not_true, Bool.not_false, BEq.rfl, Bool.false_eq_true, Bool.true_eq_false, eq_self, ↓reduceIte, Nat.reduceAdd, Nat.reduceEqDiff, Nat.reduceBEq, Nat.reduceLT, Nat.reduceLeDiff, Nat.reduceSub, Nat.reduceMul, Nat.reduceBNe, List.append_nil, Nat.zero_le, Nat.zero_add, Nat.zero_ne_one, Nat.one_ne_zero, false_implies, true_implies, not_false_eq_true, ne_eq, upd_e, updL_e, bI_zo, nI0z, nI1o, nI1z, nI0o, nI0q, nI1q, nm1_lt, nm1_ge, ax_iconst tX6_cut_0, ax_istore_n tX6_cut_1, ax_iconst tX6_cut_2, ax_istore_n tX6_cut_3, ax_iload_n tX6_cut_4, ax_sipush tX6_cut_5, ax_icmp_gt tX6_cut_8, ax_aload_n tX6_cut_11, ax_iload_n tX6_cut_12, ax_callV1 tX6_cut_13, ax_istore_n tX6_cut_16, ax_aload_n tX6_cut_17, ax_iload_n tX6_cut_18, ax_callV1 tX6_cut_19, ax_istore tX6_cut_22, ax_aload_n tX6_cut_24, ax_getR tX6_cut_25, ax_iload_n tX6_cut_28, ax_aload_n tX6_cut_29, ax_iload_n tX6_cut_30, ax_iload tX6_cut_31, ax_callV2 tX6_cut_33, ax_iastore tX6_cut_36, ax_aload_n tX6_cut_37, ax_getR tX6_cut_38, ax_iload_n tX6_cut_41, ax_iload_n tX6_cut_42, ax_iastore tX6_cut_43, ax_aload_n tX6_cut_44, ax_getR tX6_cut_45, ax_iload_n tX6_cut_48, ax_iaload tX6_cut_49, ax_bipush tX6_cut_50, ax_icmp_ne tX6_cut_52, ax_vret tX6_cut_55, ax_iload tX6_cut_56, ax_istore_n tX6_cut_58, ax_iinc tX6_cut_59, ax_goto tX6_cut_62, ax_vret tX6_cut_65, f_40, f_41, f_44, k0, r2, r3, k2, n2, k3, n3, hz, hz2]
      simp (disch := omega) only [z0, o1, nI_add, pk_mul, nI_ltI, nI_leI, nI_eq, nI_clamp, vpn, pk_sub, Nat.add_sub_cancel, bI_0, bI_1, eq_self, true_or, or_true, or_false, false_or, true_and, and_true, false_and, and_false, and_self, or_self, forall_const, not_true_eq_false, not_false_eq_true, false_implies, implies_true, true_implies, ↓reduceIte, if_true, if_false, Nat.not_lt_zero, Nat.zero_le, Nat.le_refl, Nat.lt_irrefl, ne_eq, reduceCtorEq, Bool.false_eq_true]
      refine ⟨by omega, by omega, by omega, fun _ => ?_, fun c => absurd c nz⟩
      simp only [List.length_append, List.length_cons, List.length_nil] at K
      refine K _ (by omega) (by omega) ((hf.sA (by simp)).sA (by simp)) ((ht'.A (e := 2) (Or.inl rfl)).A (e := 3) (Or.inr rfl)) (by rw [← eM]; simp) (fun i hi => ?_)
      simp only [hA_sA, up2_eq, hz, hz2, and_false, if_false, and_self, if_true, upd_e]
      by_cases ei : i = M.length
      · rw [if_pos ei, if_pos ei, ei, eC, eP]
        exact ⟨rfl, rfl⟩
      · rw [if_neg ei, if_neg ei]
        exact hM i (by omega)
set_option maxRecDepth 100000 in
set_option maxHeartbeats 1600000 in
theorem x_cut (hX : gXs B sK sV) (ht : TAP h z n T) (hz : ¬ z 2 = z 3) (hq : ∀ h', FRM [] [(12, z 2), (12, z 3)] h h' → TAP h' z n T → CUT h' z (tkC T n (cutS T n n 0)) (tkP n (cutS T n n 0)) (cutS T n n 0).length → Q none h') : gFn B mX6_cut (d + 8) 0 0 [.ref (z 0)] h Q := by
  have hL := (cutS_in (T := T) (z := n) n 0).2 (by omega)
  have Lp := x_cut_loop (B := B) (d := d) (h0 := h) hX hz (by omega) hq n 0 [] h (by omega) (by omega) (FRM.rf h) ht rfl (fun i hi => by simp at hi)
  refine gStartX (cut := [(4, [0, 1, 2])]) pnX6_cut okX6_cut (Nat.le_of_ble_eq_true rfl) 60 ?_
  simp only [axC_nil, axC_hit, axC_def, cutAt, lvLive, Option.isSome_none, Option.isSome_some, catS, lvGet, lvIns, lvSet1, lvSet2, gLit_0, gLit_1, lv_args, fv0, fv1, fv2, fv3, isI_s, isL_s, isRf_s, isRf_n, gtI_s, gtL_s, gtV_s, gFilter_nil, gFilter_cons, gL1, gL2, gL3, gL4, gL5, va_rf_s, va_rf_n, hK_sI, hK_sR, hK_sA, hK_sJ, hK_sO, hI_sI, hI_sR, hI_sA, hI_sJ, hI_sO, hR_sI, hR_sR, hR_sA, hR_sJ, hR_sO, hN_sI, hN_sR, hN_sA, hN_sJ, hN_sO, hA_sI, hA_sR, hA_sA, hA_sJ, hA_sO, hJ_sI, hJ_sR, hJ_sA, hJ_sJ, hJ_sO, hO_sI, hO_sR, hO_sA, hO_sJ, hO_sO, up3_eq, up2_eq, List.map_cons, List.map_nil, List.sum_cons, List.sum_nil, List.nil_append, List.cons_append, Option.toList_some, Option.toList_none, true_and, and_true, if_true, if_false, and_self, true_or, or_true, or_false, false_or, false_and, and_false, not_true_eq_false, not_false_eq_true, forall_const, reduceCtorEq, implies_true, List.contains_cons, List.contains_nil, Bool.or_false, Bool.false_or, Bool.or_true, Bool.true_or, Bool.and_true, Bool.true_and, Bool.and_false, Bool.false_and, Bool.not_true, Bool.not_false, BEq.rfl, Bool.false_eq_true, Bool.true_eq_false, eq_self, ↓reduceIte, Nat.reduceAdd, Nat.reduceEqDiff, Nat.reduceBEq, Nat.reduceLT, Nat.reduceLeDiff, Nat.reduceSub, Nat.reduceMul, Nat.reduceBNe, List.append_nil, Nat.zero_le, Nat.zero_add, Nat.zero_ne_one, Nat.one_ne_zero, false_implies, true_implies, not_false_eq_true, ne_eq, upd_e, updL_e, bI_zo, nI0z, nI1o, nI1z, nI0o, nI0q, nI1q, nm1_lt, nm1_ge, ax_iconst tX6_cut_0, ax_istore_n tX6_cut_1, ax_iconst tX6_cut_2, ax_istore_n tX6_cut_3, ax_iload_n tX6_cut_4, ax_sipush tX6_cut_5, ax_icmp_gt tX6_cut_8, ax_aload_n tX6_cut_11, ax_iload_n tX6_cut_12, ax_callV1 tX6_cut_13, ax_istore_n tX6_cut_16, ax_aload_n tX6_cut_17, ax_iload_n tX6_cut_18, ax_callV1 tX6_cut_19, ax_istore tX6_cut_22, ax_aload_n tX6_cut_24, ax_getR tX6_cut_25, ax_iload_n tX6_cut_28, ax_aload_n tX6_cut_29, ax_iload_n tX6_cut_30, ax_iload tX6_cut_31, ax_callV2 tX6_cut_33, ax_iastore tX6_cut_36, ax_aload_n tX6_cut_37, ax_getR tX6_cut_38, ax_iload_n tX6_cut_41, ax_iload_n tX6_cut_42, ax_iastore tX6_cut_43, ax_aload_n tX6_cut_44, ax_getR tX6_cut_45, ax_iload_n tX6_cut_48, ax_iaload tX6_cut_49, ax_bipush tX6_cut_50, ax_icmp_ne tX6_cut_52, ax_vret tX6_cut_55, ax_iload tX6_cut_56, ax_istore_n tX6_cut_58, ax_iinc tX6_cut_59, ax_goto tX6_cut_62, ax_vret tX6_cut_65, f_40, f_41, f_44]
  exact Lp
set_option maxRecDepth 100000 in
set_option maxHeartbeats 800000 in
theorem x_tokenAt {i : Nat} (ht : TAP h z n T) (hc : CUT h z C P nE) (hi : i ≤ nE) (hn6 : nE ≤ 600) (hq : Q (some (.int (tkI (C i)))) h) : gFn B mX6_tokenAt (d + 1) 0 0 [.ref (z 0), .int (nI i)] h Q := by
  obtain ⟨⟨k0, r0, r2, r3, k4, n4, k2, n2, k3, n3, i1⟩, hn, aT, bT⟩ := ht
  refine gStartX (cut := []) pnX6_tokenAt okX6_tokenAt (Nat.le_of_ble_eq_true rfl) 60 ?_
  simp only [axC_nil, axC_hit, axC_def, cutAt, lvLive, Option.isSome_none, Option.isSome_some, catS, lvGet, lvIns, lvSet1, lvSet2, gLit_0, gLit_1, lv_args, fv0, fv1, fv2, fv3, isI_s, isL_s, isRf_s, isRf_n, gtI_s, gtL_s, gtV_s, gFilter_nil, gFilter_cons, gL1, gL2, gL3, gL4, gL5, va_rf_s, va_rf_n, hK_sI, hK_sR, hK_sA, hK_sJ, hK_sO, hI_sI, hI_sR, hI_sA, hI_sJ, hI_sO, hR_sI, hR_sR, hR_sA, hR_sJ, hR_sO, hN_sI, hN_sR, hN_sA, hN_sJ, hN_sO, hA_sI, hA_sR, hA_sA, hA_sJ, hA_sO, hJ_sI, hJ_sR, hJ_sA, hJ_sJ, hJ_sO, hO_sI, hO_sR, hO_sA, hO_sJ, hO_sO, up3_eq, up2_eq, List.map_cons, List.map_nil, List.sum_cons, List.sum_nil, List.nil_append, List.cons_append, Option.toList_some, Option.toList_none, true_and, and_true, if_true, if_false, and_self, true_or, or_true, or_false, false_or, false_and, and_false, not_true_eq_false, not_false_eq_true, forall_const, reduceCtorEq, implies_true, List.contains_cons, List.contains_nil, Bool.or_false, Bool.false_or, Bool.or_true, Bool.true_or, Bool.and_true, Bool.true_and, Bool.and_false, Bool.false_and, Bool.not_true, Bool.not_false, BEq.rfl, Bool.false_eq_true, Bool.true_eq_false, eq_self, ↓reduceIte, Nat.reduceAdd, Nat.reduceEqDiff, Nat.reduceBEq, Nat.reduceLT, Nat.reduceLeDiff, Nat.reduceSub, Nat.reduceMul, Nat.reduceBNe, List.append_nil, Nat.zero_le, Nat.zero_add, Nat.zero_ne_one, Nat.one_ne_zero, false_implies, true_implies, not_false_eq_true, ne_eq, upd_e, updL_e, bI_zo, nI0z, nI1o, nI1z, nI0o, nI0q, nI1q, nm1_lt, nm1_ge, ax_iload_n tX6_tokenAt_0, ax_if_lt tX6_tokenAt_1, ax_iload_n tX6_tokenAt_4, ax_sipush tX6_tokenAt_5, ax_icmp_gt tX6_tokenAt_8, ax_aload_n tX6_tokenAt_11, ax_getR tX6_tokenAt_12, ax_iload_n tX6_tokenAt_15, ax_iaload tX6_tokenAt_16, ax_goto tX6_tokenAt_17, ax_bipush tX6_tokenAt_20, ax_iretI tX6_tokenAt_22, k0, r2, k2, n2]
  simp (disch := omega) only [z0, o1, nI_add, pk_mul, nI_ltI, nI_leI, nI_eq, nI_clamp, vpn, pk_sub, Nat.add_sub_cancel, bI_0, bI_1, eq_self, true_or, or_true, or_false, false_or, true_and, and_true, false_and, and_false, and_self, or_self, forall_const, not_true_eq_false, not_false_eq_true, false_implies, implies_true, true_implies, ↓reduceIte, if_true, if_false, Nat.not_lt_zero, Nat.zero_le, Nat.le_refl, Nat.lt_irrefl, ne_eq, reduceCtorEq, Bool.false_eq_true]
  rw [(hc i hi).1]
  exact ⟨fun c => absurd c (by omega), fun _ => ⟨by omega, hq⟩⟩
set_option maxRecDepth 100000 in
set_option maxHeartbeats 800000 in
theorem x_placeOf {i : Nat} (ht : TAP h z n T) (hc : CUT h z C P nE) (hi : i ≤ nE) (hn6 : nE ≤ 600) (hq : Q (some (.int (nI (P i)))) h) : gFn B mX6_placeOf (d + 1) 0 0 [.ref (z 0), .int (nI i)] h Q := by
  obtain ⟨⟨k0, r0, r2, r3, k4, n4, k2, n2, k3, n3, i1⟩, hn, aT, bT⟩ := ht
  refine gStartX (cut := []) pnX6_placeOf okX6_placeOf (Nat.le_of_ble_eq_true rfl) 60 ?_
  simp only [axC_nil, axC_hit, axC_def, cutAt, lvLive, Option.isSome_none, Option.isSome_some, catS, lvGet, lvIns, lvSet1, lvSet2, gLit_0, gLit_1, lv_args, fv0, fv1, fv2, fv3, isI_s, isL_s, isRf_s, isRf_n, gtI_s, gtL_s, gtV_s, gFilter_nil, gFilter_cons, gL1, gL2, gL3, gL4, gL5, va_rf_s, va_rf_n, hK_sI, hK_sR, hK_sA, hK_sJ, hK_sO, hI_sI, hI_sR, hI_sA, hI_sJ, hI_sO, hR_sI, hR_sR, hR_sA, hR_sJ, hR_sO, hN_sI, hN_sR, hN_sA, hN_sJ, hN_sO, hA_sI, hA_sR, hA_sA, hA_sJ, hA_sO, hJ_sI, hJ_sR, hJ_sA, hJ_sJ, hJ_sO, hO_sI, hO_sR, hO_sA, hO_sJ, hO_sO, up3_eq, up2_eq, List.map_cons, List.map_nil, List.sum_cons, List.sum_nil, List.nil_append, List.cons_append, Option.toList_some, Option.toList_none, true_and, and_true, if_true, if_false, and_self, true_or, or_true, or_false, false_or, false_and, and_false, not_true_eq_false, not_false_eq_true, forall_const, reduceCtorEq, implies_true, List.contains_cons, List.contains_nil, Bool.or_false, Bool.false_or, Bool.or_true, Bool.true_or, Bool.and_true, Bool.true_and, Bool.and_false, Bool.false_and, Bool.not_true, Bool.not_false, BEq.rfl, Bool.false_eq_true, Bool.true_eq_false, eq_self, ↓reduceIte, Nat.reduceAdd, Nat.reduceEqDiff, Nat.reduceBEq, Nat.reduceLT, Nat.reduceLeDiff, Nat.reduceSub, Nat.reduceMul, Nat.reduceBNe, List.append_nil, Nat.zero_le, Nat.zero_add, Nat.zero_ne_one, Nat.one_ne_zero, false_implies, true_implies, not_false_eq_true, ne_eq, upd_e, updL_e, bI_zo, nI0z, nI1o, nI1z, nI0o, nI0q, nI1q, nm1_lt, nm1_ge, ax_iload_n tX6_placeOf_0, ax_if_lt tX6_placeOf_1, ax_iload_n tX6_placeOf_4, ax_sipush tX6_placeOf_5, ax_icmp_gt tX6_placeOf_8, ax_aload_n tX6_placeOf_11, ax_getR tX6_placeOf_12, ax_iload_n tX6_placeOf_15, ax_iaload tX6_placeOf_16, ax_goto tX6_placeOf_17, ax_aload_n tX6_placeOf_20, ax_getI tX6_placeOf_21, ax_iretI tX6_placeOf_24, k0, r3, k3, n3]
  simp (disch := omega) only [z0, o1, nI_add, pk_mul, nI_ltI, nI_leI, nI_eq, nI_clamp, vpn, pk_sub, Nat.add_sub_cancel, bI_0, bI_1, eq_self, true_or, or_true, or_false, false_or, true_and, and_true, false_and, and_false, and_self, or_self, forall_const, not_true_eq_false, not_false_eq_true, false_implies, implies_true, true_implies, ↓reduceIte, if_true, if_false, Nat.not_lt_zero, Nat.zero_le, Nat.le_refl, Nat.lt_irrefl, ne_eq, reduceCtorEq, Bool.false_eq_true]
  rw [(hc i hi).2]
  exact ⟨fun c => absurd c (by omega), fun _ => ⟨by omega, hq⟩⟩
theorem nar_c : ∀ c : Fin 256, vp_nar .char (nI c.val) = nI c.val := by decide +kernel
set_option maxRecDepth 100000 in
set_option maxHeartbeats 800000 in
theorem x_putSign {c : Nat} (ht : TAP h z n T) (hc : c < 256) (hq : ∀ h', FRM [(7, 1, z 0)] [(15, z 4)] h h' → TAP h' z (lyS c (n, T)).1 (lyS c (n, T)).2 → Q none h') : gFn B mX6_putSign (d + 1) 0 0 [.ref (z 0), .int (nI c)] h Q := by
  have ht' := ht
  obtain ⟨⟨k0, r0, r2, r3, k4, n4, k2, n2, k3, n3, i1⟩, hn, aT, bT⟩ := ht
  have no : ¬ ((c = 10 ∨ 32 ≤ c ∧ c ≤ 126) ∧ n < 600) → Q none h := fun q => by
    unfold lyS at hq
    simp only [if_neg q] at hq
    exact hq h (FRM.rf h) ht'
  have ys : (c = 10 ∨ 32 ≤ c ∧ c ≤ 126) ∧ n < 600 → ∀ h', FRM [(7, 1, z 0)] [(15, z 4)] h h' → TAP h' z (n + 1) (va_up T n c) → Q none h' := fun q => by
    unfold lyS at hq
    simp only [if_pos q] at hq
    exact hq
  have go : (c = 10 ∨ 32 ≤ c ∧ c ≤ 126) → gG B mX6_putSign (d + 1) 0 0 24 [(0, .ref (z 0)), (1, .int (nI c)), (2, .int (nI 1))] [] h Q := by
    intro q
    refine gAx (cut := []) okX6_putSign 60 ?_
    simp only [axC_nil, axC_hit, axC_def, cutAt, lvLive, Option.isSome_none, Option.isSome_some, catS, lvGet, lvIns, lvSet1, lvSet2, gLit_0, gLit_1, lv_args, fv0, fv1, fv2, fv3, isI_s, isL_s, isRf_s, isRf_n, gtI_s, gtL_s, gtV_s, gFilter_nil, gFilter_cons, gL1, gL2, gL3, gL4, gL5, va_rf_s, va_rf_n, hK_sI, hK_sR, hK_sA, hK_sJ, hK_sO, hI_sI, hI_sR, hI_sA, hI_sJ, hI_sO, hR_sI, hR_sR, hR_sA, hR_sJ, hR_sO, hN_sI, hN_sR, hN_sA, hN_sJ, hN_sO, hA_sI, hA_sR, hA_sA, hA_sJ, hA_sO, hJ_sI, hJ_sR, hJ_sA, hJ_sJ, hJ_sO, hO_sI, hO_sR, hO_sA, hO_sJ, hO_sO, up3_eq, up2_eq, List.map_cons, List.map_nil, List.sum_cons, List.sum_nil, List.nil_append, List.cons_append, Option.toList_some, Option.toList_none, true_and, and_true, if_true, if_false, and_self, true_or, or_true, or_false, false_or, false_and, and_false, not_true_eq_false, not_false_eq_true, forall_const, reduceCtorEq, implies_true, List.contains_cons, List.contains_nil, Bool.or_false, Bool.false_or, Bool.or_true, Bool.true_or, Bool.and_true, Bool.true_and, Bool.and_false, Bool.false_and, Bool.not_true, Bool.not_false, BEq.rfl, Bool.false_eq_true, Bool.true_eq_false, eq_self, ↓reduceIte, Nat.reduceAdd, Nat.reduceEqDiff, Nat.reduceBEq, Nat.reduceLT, Nat.reduceLeDiff, Nat.reduceSub, Nat.reduceMul, Nat.reduceBNe, List.append_nil, Nat.zero_le, Nat.zero_add, Nat.zero_ne_one, Nat.one_ne_zero, false_implies, true_implies, not_false_eq_true, ne_eq, upd_e, updL_e, bI_zo, nI0z, nI1o, nI1z, nI0o, nI0q, nI1q, nm1_lt, nm1_ge, ax_iload_n tX6_putSign_0, ax_bipush tX6_putSign_1, ax_icmp_eq tX6_putSign_3, ax_iload_n tX6_putSign_6, ax_bipush tX6_putSign_7, ax_icmp_lt tX6_putSign_9, ax_iload_n tX6_putSign_12, ax_bipush tX6_putSign_13, ax_icmp_gt tX6_putSign_15, ax_iconst tX6_putSign_18, ax_goto tX6_putSign_19, ax_iconst tX6_putSign_22, ax_istore_n tX6_putSign_23, ax_iload_n tX6_putSign_24, ax_if_eq tX6_putSign_25, ax_aload_n tX6_putSign_28, ax_getI tX6_putSign_29, ax_sipush tX6_putSign_32, ax_icmp_ge tX6_putSign_35, ax_aload_n tX6_putSign_38, ax_getR tX6_putSign_39, ax_aload_n tX6_putSign_42, ax_getI tX6_putSign_43, ax_iload_n tX6_putSign_46, ax_castore tX6_putSign_47, ax_aload_n tX6_putSign_48, ax_dup tX6_putSign_49, ax_getI tX6_putSign_50, ax_iconst tX6_putSign_53, ax_iadd tX6_putSign_54, ax_putI tX6_putSign_55, ax_vret tX6_putSign_58, k0, i1, r0, k4, n4]
    simp (disch := omega) only [z0, o1, nI_add, pk_mul, nI_ltI, nI_leI, nI_eq, nI_clamp, vpn, pk_sub, Nat.add_sub_cancel, bI_0, bI_1, eq_self, true_or, or_true, or_false, false_or, true_and, and_true, false_and, and_false, and_self, or_self, forall_const, not_true_eq_false, not_false_eq_true, false_implies, implies_true, true_implies, ↓reduceIte, if_true, if_false, Nat.not_lt_zero, Nat.zero_le, Nat.le_refl, Nat.lt_irrefl, ne_eq, reduceCtorEq, Bool.false_eq_true]
    rw [nar_c ⟨c, hc⟩]
    refine ⟨fun c2 => no (by omega), fun c2 => ⟨by omega, ys ⟨q, by omega⟩ _ (((FRM.rf h).sA (by simp)).sI (by simp)) ?_⟩⟩
    refine ⟨⟨k0, r0, r2, r3, k4, n4, k2, n2, k3, n3, by simp [hI_sI, up3_eq]⟩, by omega, fun k hk => ?_, fun k => ?_⟩
    · simp only [hA_sI, hA_sA, up2_eq, and_self, if_true, upd_e, va_up_eq]
      split
      · rfl
      · exact aT k (by omega)
    · rw [va_up_eq]
      split
      · omega
      · exact bT k
  have stop : ¬ (c = 10 ∨ 32 ≤ c ∧ c ≤ 126) → gG B mX6_putSign (d + 1) 0 0 24 [(0, .ref (z 0)), (1, .int (nI c)), (2, .int (nI 0))] [] h Q := by
    intro q
    refine gAx (cut := []) okX6_putSign 60 ?_
    simp only [axC_nil, axC_hit, axC_def, cutAt, lvLive, Option.isSome_none, Option.isSome_some, catS, lvGet, lvIns, lvSet1, lvSet2, gLit_0, gLit_1, lv_args, fv0, fv1, fv2, fv3, isI_s, isL_s, isRf_s, isRf_n, gtI_s, gtL_s, gtV_s, gFilter_nil, gFilter_cons, gL1, gL2, gL3, gL4, gL5, va_rf_s, va_rf_n, hK_sI, hK_sR, hK_sA, hK_sJ, hK_sO, hI_sI, hI_sR, hI_sA, hI_sJ, hI_sO, hR_sI, hR_sR, hR_sA, hR_sJ, hR_sO, hN_sI, hN_sR, hN_sA, hN_sJ, hN_sO, hA_sI, hA_sR, hA_sA, hA_sJ, hA_sO, hJ_sI, hJ_sR, hJ_sA, hJ_sJ, hJ_sO, hO_sI, hO_sR, hO_sA, hO_sJ, hO_sO, up3_eq, up2_eq, List.map_cons, List.map_nil, List.sum_cons, List.sum_nil, List.nil_append, List.cons_append, Option.toList_some, Option.toList_none, true_and, and_true, if_true, if_false, and_self, true_or, or_true, or_false, false_or, false_and, and_false, not_true_eq_false, not_false_eq_true, forall_const, reduceCtorEq, implies_true, List.contains_cons, List.contains_nil, Bool.or_false, Bool.false_or, Bool.or_true, Bool.true_or, Bool.and_true, Bool.true_and, Bool.and_false, Bool.false_and, Bool.not_true, Bool.not_false, BEq.rfl, Bool.false_eq_true, Bool.true_eq_false, eq_self, ↓reduceIte, Nat.reduceAdd, Nat.reduceEqDiff, Nat.reduceBEq, Nat.reduceLT, Nat.reduceLeDiff, Nat.reduceSub, Nat.reduceMul, Nat.reduceBNe, List.append_nil, Nat.zero_le, Nat.zero_add, Nat.zero_ne_one, Nat.one_ne_zero, false_implies, true_implies, not_false_eq_true, ne_eq, upd_e, updL_e, bI_zo, nI0z, nI1o, nI1z, nI0o, nI0q, nI1q, nm1_lt, nm1_ge, ax_iload_n tX6_putSign_0, ax_bipush tX6_putSign_1, ax_icmp_eq tX6_putSign_3, ax_iload_n tX6_putSign_6, ax_bipush tX6_putSign_7, ax_icmp_lt tX6_putSign_9, ax_iload_n tX6_putSign_12, ax_bipush tX6_putSign_13, ax_icmp_gt tX6_putSign_15, ax_iconst tX6_putSign_18, ax_goto tX6_putSign_19, ax_iconst tX6_putSign_22, ax_istore_n tX6_putSign_23, ax_iload_n tX6_putSign_24, ax_if_eq tX6_putSign_25, ax_aload_n tX6_putSign_28, ax_getI tX6_putSign_29, ax_sipush tX6_putSign_32, ax_icmp_ge tX6_putSign_35, ax_aload_n tX6_putSign_38, ax_getR tX6_putSign_39, ax_aload_n tX6_putSign_42, ax_getI tX6_putSign_43, ax_iload_n tX6_putSign_46, ax_castore tX6_putSign_47, ax_aload_n tX6_putSign_48, ax_dup tX6_putSign_49, ax_getI tX6_putSign_50, ax_iconst tX6_putSign_53, ax_iadd tX6_putSign_54, ax_putI tX6_putSign_55, ax_vret tX6_putSign_58]
    exact no (by omega)
  refine gStartX (cut := [(24, [0, 1, 2])]) pnX6_putSign okX6_putSign (Nat.le_of_ble_eq_true rfl) 60 ?_
  simp only [axC_nil, axC_hit, axC_def, cutAt, lvLive, Option.isSome_none, Option.isSome_some, catS, lvGet, lvIns, lvSet1, lvSet2, gLit_0, gLit_1, lv_args, fv0, fv1, fv2, fv3, isI_s, isL_s, isRf_s, isRf_n, gtI_s, gtL_s, gtV_s, gFilter_nil, gFilter_cons, gL1, gL2, gL3, gL4, gL5, va_rf_s, va_rf_n, hK_sI, hK_sR, hK_sA, hK_sJ, hK_sO, hI_sI, hI_sR, hI_sA, hI_sJ, hI_sO, hR_sI, hR_sR, hR_sA, hR_sJ, hR_sO, hN_sI, hN_sR, hN_sA, hN_sJ, hN_sO, hA_sI, hA_sR, hA_sA, hA_sJ, hA_sO, hJ_sI, hJ_sR, hJ_sA, hJ_sJ, hJ_sO, hO_sI, hO_sR, hO_sA, hO_sJ, hO_sO, up3_eq, up2_eq, List.map_cons, List.map_nil, List.sum_cons, List.sum_nil, List.nil_append, List.cons_append, Option.toList_some, Option.toList_none, true_and, and_true, if_true, if_false, and_self, true_or, or_true, or_false, false_or, false_and, and_false, not_true_eq_false, not_false_eq_true, forall_const, reduceCtorEq, implies_true, List.contains_cons, List.contains_nil, Bool.or_false, Bool.false_or, Bool.or_true, Bool.true_or, Bool.and_true, Bool.true_and, Bool.and_false, Bool.false_and, Bool.not_true, Bool.not_false, BEq.rfl, Bool.false_eq_true, Bool.true_eq_false, eq_self, ↓reduceIte, Nat.reduceAdd, Nat.reduceEqDiff, Nat.reduceBEq, Nat.reduceLT, Nat.reduceLeDiff, Nat.reduceSub, Nat.reduceMul, Nat.reduceBNe, List.append_nil, Nat.zero_le, Nat.zero_add, Nat.zero_ne_one, Nat.one_ne_zero, false_implies, true_implies, not_false_eq_true, ne_eq, upd_e, updL_e, bI_zo, nI0z, nI1o, nI1z, nI0o, nI0q, nI1q, nm1_lt, nm1_ge, ax_iload_n tX6_putSign_0, ax_bipush tX6_putSign_1, ax_icmp_eq tX6_putSign_3, ax_iload_n tX6_putSign_6, ax_bipush tX6_putSign_7, ax_icmp_lt tX6_putSign_9, ax_iload_n tX6_putSign_12, ax_bipush tX6_putSign_13, ax_icmp_gt tX6_putSign_15, ax_iconst tX6_putSign_18, ax_goto tX6_putSign_19, ax_iconst tX6_putSign_22, ax_istore_n tX6_putSign_23, ax_iload_n tX6_putSign_24, ax_if_eq tX6_putSign_25, ax_aload_n tX6_putSign_28, ax_getI tX6_putSign_29, ax_sipush tX6_putSign_32, ax_icmp_ge tX6_putSign_35, ax_aload_n tX6_putSign_38, ax_getR tX6_putSign_39, ax_aload_n tX6_putSign_42, ax_getI tX6_putSign_43, ax_iload_n tX6_putSign_46, ax_castore tX6_putSign_47, ax_aload_n tX6_putSign_48, ax_dup tX6_putSign_49, ax_getI tX6_putSign_50, ax_iconst tX6_putSign_53, ax_iadd tX6_putSign_54, ax_putI tX6_putSign_55, ax_vret tX6_putSign_58]
  simp (disch := omega) only [z0, o1, nI_add, pk_mul, nI_ltI, nI_leI, nI_eq, nI_clamp, vpn, pk_sub, Nat.add_sub_cancel, bI_0, bI_1, eq_self, true_or, or_true, or_false, false_or, true_and, and_true, false_and, and_false, and_self, or_self, forall_const, not_true_eq_false, not_false_eq_true, false_implies, implies_true, true_implies, ↓reduceIte, if_true, if_false, Nat.not_lt_zero, Nat.zero_le, Nat.le_refl, Nat.lt_irrefl, ne_eq, reduceCtorEq, Bool.false_eq_true]
  refine ⟨fun q => go (by omega), fun q => ⟨fun q2 => stop (by omega), fun q2 => ⟨fun q3 => stop (by omega), fun q3 => go (by omega)⟩⟩⟩
end CLSK
