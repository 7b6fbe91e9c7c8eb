/-! the reference: letters, digits, signs; cutAll -/
def chL (c : Nat) : Bool := decide (97 ≤ c) && decide (c ≤ 122)
def chD (c : Nat) : Bool := decide (48 ≤ c) && decide (c ≤ 57)
def chS (c : Nat) : Bool := (c == 40) || ((c == 41) || ((c == 59) || ((c == 61) || ((c == 60) || ((c == 43) || (c == 45))))))
def rE (p : Nat → Bool) (T : Nat → Nat) (z : Nat) : Nat → Nat → Nat
  | 0, k => k
  | n + 1, k => if k < z ∧ p (T k) = true then rE p T z n (k + 1) else k
def wvL (T : Nat → Nat) (fr : Nat) : Nat → Nat
  | 0 => 0
  | m + 1 => if m < 8 then 37 * wvL T fr m + (T (fr + m) - 96) else wvL T fr m
def dvL (T : Nat → Nat) (fr : Nat) : Nat → Nat
  | 0 => 0
  | m + 1 => if m < 4 then 10 * dvL T fr m + (T (fr + m) - 48) else dvL T fr m
theorem rE_le (p : Nat → Bool) (T : Nat → Nat) (z : Nat) : ∀ n k, k ≤ z → rE p T z n k ≤ z ∧ k ≤ rE p T z n k := by
  intro n
  induction n with
  | zero => exact fun k h => ⟨h, Nat.le_refl k⟩
  | succ n ih =>
    intro k h
    unfold rE
    split
    · rename_i c
      have := ih (k + 1) (by omega)
      omega
    · exact ⟨h, Nat.le_refl k⟩
def tkE (T : Nat → Nat) (z k : Nat) : Nat := if chL (T k) then rE chL T z (z - k) k else if chD (T k) then rE chD T z (z - k) k else k + 1
def tkS (T : Nat → Nat) (z k : Nat) : Nat := if chL (T k) then (if 8 < tkE T z k - k then 4 else 1) else if chD (T k) then (if 4 < tkE T z k - k then 4 else 2) else if chS (T k) then 3 else 4
def tkV (T : Nat → Nat) (z k : Nat) : Nat := if chL (T k) then wvL T k (tkE T z k - k) else if chD (T k) then dvL T k (tkE T z k - k) else T k
theorem tkE_gt {T : Nat → Nat} {z k : Nat} (h : k < z) : k < tkE T z k ∧ tkE T z k ≤ z := by
  unfold tkE
  obtain ⟨n, e⟩ : ∃ n, z - k = n + 1 := ⟨z - k - 1, by omega⟩
  split
  · rename_i c
    rw [e]
    unfold rE
    rw [if_pos ⟨h, c⟩]
    have := rE_le chL T z n (k + 1) (by omega)
    omega
  · split
    · rename_i c
      rw [e]
      unfold rE
      rw [if_pos ⟨h, c⟩]
      have := rE_le chD T z n (k + 1) (by omega)
      omega
    · omega
/-- the places of the tokens -/
def cutS (T : Nat → Nat) (z : Nat) : Nat → Nat → List Nat
  | 0, _ => []
  | f + 1, k => if z ≤ k then [] else if T k = 10 ∨ T k = 32 then cutS T z f (k + 1) else k :: cutS T z f (tkE T z k)
def ctA (a : Nat → Nat → Nat) (T : Nat → Nat) (z : Nat) (M : List Nat) : Nat → Nat → Nat := fun e j => if e = 4 ∧ j < M.length then tkS T z (M.getD j 0) else if e = 5 ∧ j < M.length then M.getD j 0 else if e = 6 ∧ j < M.length then tkV T z (M.getD j 0) else a e j
def ctF (a : Nat → Nat → Nat) (T : Nat → Nat) (z : Nat) (M : List Nat) : Nat → Nat → Nat := up2 (up2 (ctA a T z M) 4 M.length 0) 5 M.length z
theorem getD_sn (M : List Nat) (k j : Nat) : (M ++ [k]).getD j 0 = if j = M.length then k else M.getD j 0 := by
  rcases Nat.lt_trichotomy j M.length with h | h | h
  · rw [if_neg (by omega), List.getD_eq_getElem?_getD, List.getD_eq_getElem?_getD, List.getElem?_append_left h]
  · subst h
    simp
  · rw [if_neg (by omega), List.getD_eq_getElem?_getD, List.getD_eq_getElem?_getD, List.getElem?_eq_none (by simp; omega), List.getElem?_eq_none (by omega)]
theorem ctA_sn (a : Nat → Nat → Nat) (T : Nat → Nat) (z : Nat) (M : List Nat) (k : Nat) : ∀ e j, up2 (up2 (up2 (ctA a T z M) 5 M.length k) 4 M.length (tkS T z k)) 6 M.length (tkV T z k) e j = ctA a T z (M ++ [k]) e j := by
  intro e j
  simp only [up2_eq, ctA, List.length_append, List.length_cons, List.length_nil, getD_sn]
  by_cases hj : j = M.length
  · subst hj
    by_cases h4 : e = 4
    · subst h4; simp
    · by_cases h5 : e = 5
      · subst h5; simp
      · by_cases h6 : e = 6
        · subst h6; simp
        · simp [h4, h5, h6]
  · have : (j < M.length + (0 + 1)) = (j < M.length) := by apply propext; omega
    simp [hj, this]
section REFR
variable {B : gB} {x : Nat} {xa : Nat → Nat} {h : gHp} {s : Nat → Nat} {a : Nat → Nat → Nat} {d : Nat} {Q : Option Value → gHp → Prop}
set_option maxHeartbeats 800000 in
theorem r_isLetter {c : Nat} (hc : c < 2 ^ 31) (hq : Q (some (.int (bI (chL c)))) h) : gFn B mX9_isLetter (d + 1) 0 0 [.int (nI c)] h Q := by
  refine gStartX (cut := []) pnX9_isLetter okX9_isLetter (Nat.le_of_ble_eq_true rfl) 60 ?_
  simp only [axC_nil, axC_hit, axC_def, cutAt, lvLive, Option.isSome_none, Option.isSome_some, catS, lvGet, lvIns, lvSet1, lvSet2, gLit_0, gLit_1, lv_args, fv0, fv1, fv2, fv3, isI_s, isL_s, isRf_s, isRf_n, gtI_s, gtL_s, gtV_s, gFilter_nil, gFilter_cons, gL1, gL2, gL3, gL4, gL5, va_rf_s, va_rf_n, hK_sI, hK_sR, hK_sA, hK_sJ, hK_sO, hI_sI, hI_sR, hI_sA, hI_sJ, hI_sO, hR_sI, hR_sR, hR_sA, hR_sJ, hR_sO, hN_sI, hN_sR, hN_sA, hN_sJ, hN_sO, hA_sI, hA_sR, hA_sA, hA_sJ, hA_sO, hJ_sI, hJ_sR, hJ_sA, hJ_sJ, hJ_sO, hO_sI, hO_sR, hO_sA, hO_sJ, hO_sO, up3_eq, up2_eq, List.map_cons, List.map_nil, List.sum_cons, List.sum_nil, List.nil_append, List.cons_append, Option.toList_some, Option.toList_none, true_and, and_true, if_true, if_false, and_self, true_or, or_true, or_false, false_or, false_and, and_false, not_true_eq_false, not_false_eq_true, forall_const, reduceCtorEq, implies_true, List.contains_cons, List.contains_nil, Bool.or_false, Bool.false_or, Bool.or_true, Bool.true_or, Bool.and_true, Bool.true_and, Bool.and_false, Bool.false_and, Bool.not_true, Bool.not_false, BEq.rfl, Bool.false_eq_true, Bool.true_eq_false, eq_self, ↓reduceIte, Nat.reduceAdd, Nat.reduceEqDiff, Nat.reduceBEq, Nat.reduceLT, Nat.reduceLeDiff, Nat.reduceSub, Nat.reduceMul, Nat.reduceBNe, List.append_nil, Nat.zero_le, Nat.zero_add, Nat.zero_ne_one, Nat.one_ne_zero, false_implies, true_implies, not_false_eq_true, ne_eq, upd_e, updL_e, bI_zo, nI0z, nI1o, nI1z, nI0o, nI0q, nI1q, nm1_lt, nm1_ge, ax_iload_n tX9_isLetter_0, ax_bipush tX9_isLetter_1, ax_icmp_lt tX9_isLetter_3, ax_iload_n tX9_isLetter_6, ax_bipush tX9_isLetter_7, ax_icmp_gt tX9_isLetter_9, ax_iconst tX9_isLetter_12, ax_goto tX9_isLetter_13, ax_iconst tX9_isLetter_16, ax_iretZ tX9_isLetter_17]
  simp (disch := omega) only [z0, o1, nI_add, pk_mul, nI_ltI, nI_leI, nI_eq, nI_clamp, vpn, pk_sub, Nat.add_sub_cancel, bI_0, bI_1, eq_self, true_or, or_true, or_false, false_or, true_and, and_true, false_and, and_false, and_self, or_self, forall_const, not_true_eq_false, not_false_eq_true, false_implies, implies_true, true_implies, ↓reduceIte, if_true, if_false, Nat.not_lt_zero, Nat.zero_le, Nat.le_refl, Nat.lt_irrefl, ne_eq, reduceCtorEq, Bool.false_eq_true]
  refine ⟨fun q => ?_, fun q => ⟨fun q2 => ?_, fun q2 => ?_⟩⟩
  · rw [show chL c = false by simp [chL]; omega] at hq; exact hq
  · rw [show chL c = false by simp [chL]; omega] at hq; exact hq
  · rw [show chL c = true by simp [chL]; omega] at hq; exact hq
set_option maxHeartbeats 800000 in
theorem r_isDigit {c : Nat} (hc : c < 2 ^ 31) (hq : Q (some (.int (bI (chD c)))) h) : gFn B mX9_isDigit (d + 1) 0 0 [.int (nI c)] h Q := by
  refine gStartX (cut := []) pnX9_isDigit okX9_isDigit (Nat.le_of_ble_eq_true rfl) 60 ?_
  simp only [axC_nil, axC_hit, axC_def, cutAt, lvLive, Option.isSome_none, Option.isSome_some, catS, lvGet, lvIns, lvSet1, lvSet2, gLit_0, gLit_1, lv_args, fv0, fv1, fv2, fv3, isI_s, isL_s, isRf_s, isRf_n, gtI_s, gtL_s, gtV_s, gFilter_nil, gFilter_cons, gL1, gL2, gL3, gL4, gL5, va_rf_s, va_rf_n, hK_sI, hK_sR, hK_sA, hK_sJ, hK_sO, hI_sI, hI_sR, hI_sA, hI_sJ, hI_sO, hR_sI, hR_sR, hR_sA, hR_sJ, hR_sO, hN_sI, hN_sR, hN_sA, hN_sJ, hN_sO, hA_sI, hA_sR, hA_sA, hA_sJ, hA_sO, hJ_sI, hJ_sR, hJ_sA, hJ_sJ, hJ_sO, hO_sI, hO_sR, hO_sA, hO_sJ, hO_sO, up3_eq, up2_eq, List.map_cons, List.map_nil, List.sum_cons, List.sum_nil, List.nil_append, List.cons_append, Option.toList_some, Option.toList_none, true_and, and_true, if_true, if_false, and_self, true_or, or_true, or_false, false_or, false_and, and_false, not_true_eq_false, not_false_eq_true, forall_const, reduceCtorEq, implies_true, List.contains_cons, List.contains_nil, Bool.or_false, Bool.false_or, Bool.or_true, Bool.true_or, Bool.and_true, Bool.true_and, Bool.and_false, Bool.false_and, Bool.not_true, Bool.not_false, BEq.rfl, Bool.false_eq_true, Bool.true_eq_false, eq_self, ↓reduceIte, Nat.reduceAdd, Nat.reduceEqDiff, Nat.reduceBEq, Nat.reduceLT, Nat.reduceLeDiff, Nat.reduceSub, Nat.reduceMul, Nat.reduceBNe, List.append_nil, Nat.zero_le, Nat.zero_add, Nat.zero_ne_one, Nat.one_ne_zero, false_implies, true_implies, not_false_eq_true, ne_eq, upd_e, updL_e, bI_zo, nI0z, nI1o, nI1z, nI0o, nI0q, nI1q, nm1_lt, nm1_ge, ax_iload_n tX9_isDigit_0, ax_bipush tX9_isDigit_1, ax_icmp_lt tX9_isDigit_3, ax_iload_n tX9_isDigit_6, ax_bipush tX9_isDigit_7, ax_icmp_gt tX9_isDigit_9, ax_iconst tX9_isDigit_12, ax_goto tX9_isDigit_13, ax_iconst tX9_isDigit_16, ax_iretZ tX9_isDigit_17]
  simp (disch := omega) only [z0, o1, nI_add, pk_mul, nI_ltI, nI_leI, nI_eq, nI_clamp, vpn, pk_sub, Nat.add_sub_cancel, bI_0, bI_1, eq_self, true_or, or_true, or_false, false_or, true_and, and_true, false_and, and_false, and_self, or_self, forall_const, not_true_eq_false, not_false_eq_true, false_implies, implies_true, true_implies, ↓reduceIte, if_true, if_false, Nat.not_lt_zero, Nat.zero_le, Nat.le_refl, Nat.lt_irrefl, ne_eq, reduceCtorEq, Bool.false_eq_true]
  refine ⟨fun q => ?_, fun q => ⟨fun q2 => ?_, fun q2 => ?_⟩⟩
  · rw [show chD c = false by simp [chD]; omega] at hq; exact hq
  · rw [show chD c = false by simp [chD]; omega] at hq; exact hq
  · rw [show chD c = true by simp [chD]; omega] at hq; exact hq
set_option maxHeartbeats 800000 in
theorem r_isSignOf {c : Nat} (hc : c < 2 ^ 31) (hq : Q (some (.int (bI (chS c)))) h) : gFn B mX9_isSignOf (d + 1) 0 0 [.int (nI c)] h Q := by
  refine gStartX (cut := []) pnX9_isSignOf okX9_isSignOf (Nat.le_of_ble_eq_true rfl) 60 ?_
  simp only [axC_nil, axC_hit, axC_def, cutAt, lvLive, Option.isSome_none, Option.isSome_some, catS, lvGet, lvIns, lvSet1, lvSet2, gLit_0, gLit_1, lv_args, fv0, fv1, fv2, fv3, isI_s, isL_s, isRf_s, isRf_n, gtI_s, gtL_s, gtV_s, gFilter_nil, gFilter_cons, gL1, gL2, gL3, gL4, gL5, va_rf_s, va_rf_n, hK_sI, hK_sR, hK_sA, hK_sJ, hK_sO, hI_sI, hI_sR, hI_sA, hI_sJ, hI_sO, hR_sI, hR_sR, hR_sA, hR_sJ, hR_sO, hN_sI, hN_sR, hN_sA, hN_sJ, hN_sO, hA_sI, hA_sR, hA_sA, hA_sJ, hA_sO, hJ_sI, hJ_sR, hJ_sA, hJ_sJ, hJ_sO, hO_sI, hO_sR, hO_sA, hO_sJ, hO_sO, up3_eq, up2_eq, List.map_cons, List.map_nil, List.sum_cons, List.sum_nil, List.nil_append, List.cons_append, Option.toList_some, Option.toList_none, true_and, and_true, if_true, if_false, and_self, true_or, or_true, or_false, false_or, false_and, and_false, not_true_eq_false, not_false_eq_true, forall_const, reduceCtorEq, implies_true, List.contains_cons, List.contains_nil, Bool.or_false, Bool.false_or, Bool.or_true, Bool.true_or, Bool.and_true, Bool.true_and, Bool.and_false, Bool.false_and, Bool.not_true, Bool.not_false, BEq.rfl, Bool.false_eq_true, Bool.true_eq_false, eq_self, ↓reduceIte, Nat.reduceAdd, Nat.reduceEqDiff, Nat.reduceBEq, Nat.reduceLT, Nat.reduceLeDiff, Nat.reduceSub, Nat.reduceMul, Nat.reduceBNe, List.append_nil, Nat.zero_le, Nat.zero_add, Nat.zero_ne_one, Nat.one_ne_zero, false_implies, true_implies, not_false_eq_true, ne_eq, upd_e, updL_e, bI_zo, nI0z, nI1o, nI1z, nI0o, nI0q, nI1q, nm1_lt, nm1_ge, ax_iload_n tX9_isSignOf_0, ax_bipush tX9_isSignOf_1, ax_icmp_eq tX9_isSignOf_3, ax_iload_n tX9_isSignOf_6, ax_bipush tX9_isSignOf_7, ax_icmp_eq tX9_isSignOf_9, ax_iload_n tX9_isSignOf_12, ax_bipush tX9_isSignOf_13, ax_icmp_eq tX9_isSignOf_15, ax_iload_n tX9_isSignOf_18, ax_bipush tX9_isSignOf_19, ax_icmp_eq tX9_isSignOf_21, ax_iload_n tX9_isSignOf_24, ax_bipush tX9_isSignOf_25, ax_icmp_eq tX9_isSignOf_27, ax_iload_n tX9_isSignOf_30, ax_bipush tX9_isSignOf_31, ax_icmp_eq tX9_isSignOf_33, ax_iload_n tX9_isSignOf_36, ax_bipush tX9_isSignOf_37, ax_icmp_ne tX9_isSignOf_39, ax_iconst tX9_isSignOf_42, ax_goto tX9_isSignOf_43, ax_iconst tX9_isSignOf_46, ax_iretZ tX9_isSignOf_47]
  simp (disch := omega) only [z0, o1, nI_add, pk_mul, nI_ltI, nI_leI, nI_eq, nI_clamp, vpn, pk_sub, Nat.add_sub_cancel, bI_0, bI_1, eq_self, true_or, or_true, or_false, false_or, true_and, and_true, false_and, and_false, and_self, or_self, forall_const, not_true_eq_false, not_false_eq_true, false_implies, implies_true, true_implies, ↓reduceIte, if_true, if_false, Nat.not_lt_zero, Nat.zero_le, Nat.le_refl, Nat.lt_irrefl, ne_eq, reduceCtorEq, Bool.false_eq_true]
  have ys : (c = 40 ∨ c = 41 ∨ c = 59 ∨ c = 61 ∨ c = 60 ∨ c = 43 ∨ c = 45) → Q (some (.int (nI 1))) h := fun e => by
    rw [show chS c = true by simp [chS]; omega] at hq; exact hq
  have no : ¬ (c = 40 ∨ c = 41 ∨ c = 59 ∨ c = 61 ∨ c = 60 ∨ c = 43 ∨ c = 45) → Q (some (.int (nI 0))) h := fun e => by
    rw [show chS c = false by simp [chS]; omega] at hq; exact hq
  refine ⟨fun q => ys (by omega), fun q1 => ⟨fun q => ys (by omega), fun q2 => ⟨fun q => ys (by omega), fun q3 => ⟨fun q => ys (by omega), fun q4 => ⟨fun q => ys (by omega), fun q5 => ⟨fun q => ys (by omega), fun q6 => ⟨fun q => ?_, fun q => ?_⟩⟩⟩⟩⟩⟩⟩
  all_goals first | exact ys (by omega) | exact no (by omega)
set_option maxHeartbeats 800000 in
theorem r_rank {c : Nat} (hc : c < 2 ^ 31) (hl : chL c = true) (hq : Q (some (.int (nI (c - 96)))) h) : gFn B mX9_rank (d + 2) 0 0 [.int (nI c)] h Q := by
  refine gStartX (cut := []) pnX9_rank okX9_rank (Nat.le_of_ble_eq_true rfl) 60 ?_
  simp only [axC_nil, axC_hit, axC_def, cutAt, lvLive, Option.isSome_none, Option.isSome_some, catS, lvGet, lvIns, lvSet1, lvSet2, gLit_0, gLit_1, lv_args, fv0, fv1, fv2, fv3, isI_s, isL_s, isRf_s, isRf_n, gtI_s, gtL_s, gtV_s, gFilter_nil, gFilter_cons, gL1, gL2, gL3, gL4, gL5, va_rf_s, va_rf_n, hK_sI, hK_sR, hK_sA, hK_sJ, hK_sO, hI_sI, hI_sR, hI_sA, hI_sJ, hI_sO, hR_sI, hR_sR, hR_sA, hR_sJ, hR_sO, hN_sI, hN_sR, hN_sA, hN_sJ, hN_sO, hA_sI, hA_sR, hA_sA, hA_sJ, hA_sO, hJ_sI, hJ_sR, hJ_sA, hJ_sJ, hJ_sO, hO_sI, hO_sR, hO_sA, hO_sJ, hO_sO, up3_eq, up2_eq, List.map_cons, List.map_nil, List.sum_cons, List.sum_nil, List.nil_append, List.cons_append, Option.toList_some, Option.toList_none, true_and, and_true, if_true, if_false, and_self, true_or, or_true, or_false, false_or, false_and, and_false, not_true_eq_false, not_false_eq_true, forall_const, reduceCtorEq, implies_true, List.contains_cons, List.contains_nil, Bool.or_false, Bool.false_or, Bool.or_true, Bool.true_or, Bool.and_true, Bool.true_and, Bool.and_false, Bool.false_and, Bool.not_true, Bool.not_false, BEq.rfl, Bool.false_eq_true, Bool.true_eq_false, eq_self, ↓reduceIte, Nat.reduceAdd, Nat.reduceEqDiff, Nat.reduceBEq, Nat.reduceLT, Nat.reduceLeDiff, Nat.reduceSub, Nat.reduceMul, Nat.reduceBNe, List.append_nil, Nat.zero_le, Nat.zero_add, Nat.zero_ne_one, Nat.one_ne_zero, false_implies, true_implies, not_false_eq_true, ne_eq, upd_e, updL_e, bI_zo, nI0z, nI1o, nI1z, nI0o, nI0q, nI1q, nm1_lt, nm1_ge, ax_iload_n tX9_rank_0, ax_callS1 tX9_rank_1, ax_if_eq tX9_rank_4, ax_iload_n tX9_rank_7, ax_bipush tX9_rank_8, ax_isub tX9_rank_10, ax_goto tX9_rank_11, ax_iload_n tX9_rank_14, ax_bipush tX9_rank_15, ax_isub tX9_rank_17, ax_iretI tX9_rank_18, f_106]
  refine r_isLetter hc ?_
  rw [hl]
  have : 97 ≤ c := by simp [chL] at hl; omega
  refine gAx (cut := []) okX9_rank 60 ?_
  simp only [axC_nil, axC_hit, axC_def, cutAt, lvLive, Option.isSome_none, Option.isSome_some, catS, lvGet, lvIns, lvSet1, lvSet2, gLit_0, gLit_1, lv_args, fv0, fv1, fv2, fv3, isI_s, isL_s, isRf_s, isRf_n, gtI_s, gtL_s, gtV_s, gFilter_nil, gFilter_cons, gL1, gL2, gL3, gL4, gL5, va_rf_s, va_rf_n, hK_sI, hK_sR, hK_sA, hK_sJ, hK_sO, hI_sI, hI_sR, hI_sA, hI_sJ, hI_sO, hR_sI, hR_sR, hR_sA, hR_sJ, hR_sO, hN_sI, hN_sR, hN_sA, hN_sJ, hN_sO, hA_sI, hA_sR, hA_sA, hA_sJ, hA_sO, hJ_sI, hJ_sR, hJ_sA, hJ_sJ, hJ_sO, hO_sI, hO_sR, hO_sA, hO_sJ, hO_sO, up3_eq, up2_eq, List.map_cons, List.map_nil, List.sum_cons, List.sum_nil, List.nil_append, List.cons_append, Option.toList_some, Option.toList_none, true_and, and_true, if_true, if_false, and_self, true_or, or_true, or_false, false_or, false_and, and_false, not_true_eq_false, not_false_eq_true, forall_const, reduceCtorEq, implies_true, List.contains_cons, List.contains_nil, Bool.or_false, Bool.false_or, Bool.or_true, Bool.true_or, Bool.and_true, Bool.true_and, Bool.and_false, Bool.false_and, Bool.not_true, Bool.not_false, BEq.rfl, Bool.false_eq_true, Bool.true_eq_false, eq_self, ↓reduceIte, Nat.reduceAdd, Nat.reduceEqDiff, Nat.reduceBEq, Nat.reduceLT, Nat.reduceLeDiff, Nat.reduceSub, Nat.reduceMul, Nat.reduceBNe, List.append_nil, Nat.zero_le, Nat.zero_add, Nat.zero_ne_one, Nat.one_ne_zero, false_implies, true_implies, not_false_eq_true, ne_eq, upd_e, updL_e, bI_zo, nI0z, nI1o, nI1z, nI0o, nI0q, nI1q, nm1_lt, nm1_ge, ax_iload_n tX9_rank_0, ax_callS1 tX9_rank_1, ax_if_eq tX9_rank_4, ax_iload_n tX9_rank_7, ax_bipush tX9_rank_8, ax_isub tX9_rank_10, ax_goto tX9_rank_11, ax_iload_n tX9_rank_14, ax_bipush tX9_rank_15, ax_isub tX9_rank_17, ax_iretI tX9_rank_18, f_106, bI_t]
  simp (disch := omega) only [z0, o1, nI_add, pk_mul, nI_ltI, nI_leI, nI_eq, nI_clamp, vpn, pk_sub, Nat.add_sub_cancel, bI_0, bI_1, eq_self, true_or, or_true, or_false, false_or, true_and, and_true, false_and, and_false, and_self, or_self, forall_const, not_true_eq_false, not_false_eq_true, false_implies, implies_true, true_implies, ↓reduceIte, if_true, if_false, Nat.not_lt_zero, Nat.zero_le, Nat.le_refl, Nat.lt_irrefl, ne_eq, reduceCtorEq, Bool.false_eq_true]
  exact hq
end REFR
