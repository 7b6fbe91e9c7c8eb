/-! THE CLASS: asks -/
/-- an ask: its cells z, its numbers V, its words W -/
def ASK (h : gHp) (z V W : Nat → Nat) : Prop := (hK h (z 0) = 2 ∧ hR h 1 5 (z 0) = some (z 5) ∧ hK h (z 5) = 12 ∧ hN h (z 5) = 4) ∧ (hI h 1 0 (z 0) = nI (V 0) ∧ hI h 1 1 (z 0) = nI (V 1) ∧ hI h 1 2 (z 0) = nI (V 2) ∧ hI h 1 3 (z 0) = nI (V 3) ∧ hI h 1 4 (z 0) = nI (V 4) ∧ hI h 1 6 (z 0) = nI (V 6) ∧ hI h 1 7 (z 0) = sg (V 7) ∧ hI h 1 8 (z 0) = nI (V 9) ∧ hI h 1 9 (z 0) = nI (V 10) ∧ hI h 1 10 (z 0) = nI (V 11) ∧ hI h 1 11 (z 0) = nI (V 12)) ∧ V 6 ≤ 4 ∧ V 10 ≤ 1 ∧ V 11 ≤ 4999 ∧ V 12 ≤ 20 ∧ (∀ k, V k < 2 ^ 31) ∧ (∀ k, k < V 6 → hA h 12 (z 5) k = nI (W k)) ∧ (∀ k, W k < 2 ^ 31)
theorem sg_gt {D d : Nat} (hD : D < 2 ^ 31) (hd : d < 2 ^ 31) : (sg D < nI d) = (D ≤ d) := by
  apply propext
  rcases D with _ | D
  · exact ⟨fun _ => by omega, fun _ => by
      rw [sg_0]
      by_cases e : d = 0
      · subst e; decide
      · have h1 : (-1 : Int32) < nI 0 := by decide
        have h2 : nI 0 < nI d := (nI_ltI (by omega) (by omega)).mpr (by omega)
        exact Int32.lt_trans h1 h2⟩
  · rw [sg_s, nI_ltI (by omega) (by omega)]
    omega
theorem sg_le {D d : Nat} (hD : D < 2 ^ 31) (hd : d < 2 ^ 31) : (sg D ≤ nI d) = (D ≤ d + 1) := by
  apply propext
  rcases D with _ | D
  · exact ⟨fun _ => by omega, fun _ => Int32.le_of_lt (by rw [sg_gt (by omega) hd]; omega)⟩
  · rw [sg_s, nI_leI (by omega) (by omega)]
    omega
/-- a working day -/
def wkN (d : Nat) : Nat := if d % 7 < 5 then 1 else 0
def dueC : Nat → Nat → Nat → Nat
  | 0, _, d => d
  | f + 1, w, d => if w < 20 ∧ d < 4999 then dueC f (w + wkN (d + 1)) (d + 1) else d
/-- days up to now - 1, counted -/
def cntT (now : Nat) : Nat → Nat × Nat → Nat × Nat
  | 0, p => p
  | f + 1, p => if p.1 + 1 < now ∧ p.2 < 20 then cntT now f (p.1 + 1, p.2 + wkN (p.1 + 1)) else p
def skpT (now : Nat) (p : Nat × Nat) : Nat × Nat := if p.2 < 20 ∧ p.1 + 1 < now then (now - 1, p.2) else p
/-- an ask with other numbers -/
def askV (V : Nat → Nat) (p : Nat × Nat) : Nat → Nat := va_up (va_up V 11 p.1) 12 p.2
theorem sI_id {h : gHp} {c k b : Nat} {v : Int32} (e : hI h c k b = v) : sI h c k b v = h := by
  have : up3 (hI h) c k b v = hI h := by
    funext c' k' b'
    rw [up3_eq]
    split
    · rename_i q; rw [q.1, q.2.1, q.2.2]; exact e.symm
    · rfl
  unfold sI
  rw [this]
  rfl
section CLSC
variable {B : gB} {h : gHp} {d : Nat} {Q : Option Value → gHp → Prop} {z V W z2 V2 W2 : Nat → Nat}
set_option maxHeartbeats 800000 in
theorem x_isWorkingDay {k : Nat} (hk : k < 2 ^ 31) (hq : Q (some (.int (nI (wkN k)))) h) : gFn B mX0_isWorkingDay (d + 1) 0 0 [.int (nI k)] h Q := by
  refine gStartX (cut := []) pnX0_isWorkingDay okX0_isWorkingDay (Nat.le_of_ble_eq_true rfl) 60 ?_
  simp only [axC_nil, axC_hit, axC_def, cutAt, lvLive, Option.isSome_none, Option.isSome_some, catS, lvGet, lvIns, lvSet1, lvSet2, gLit_0, gLit_1, lv_args, fv0, fv1, fv2, fv3, isI_s, isL_s, isRf_s, isRf_n, gtI_s, gtL_s, gtV_s, gFilter_nil, gFilter_cons, gL1, gL2, gL3, gL4, gL5, va_rf_s, va_rf_n, hK_sI, hK_sR, hK_sA, hK_sJ, hK_sO, hI_sI, hI_sR, hI_sA, hI_sJ, hI_sO, hR_sI, hR_sR, hR_sA, hR_sJ, hR_sO, hN_sI, hN_sR, hN_sA, hN_sJ, hN_sO, hA_sI, hA_sR, hA_sA, hA_sJ, hA_sO, hJ_sI, hJ_sR, hJ_sA, hJ_sJ, hJ_sO, hO_sI, hO_sR, hO_sA, hO_sJ, hO_sO, up3_eq, up2_eq, List.map_cons, List.map_nil, List.sum_cons, List.sum_nil, List.nil_append, List.cons_append, Option.toList_some, Option.toList_none, true_and, and_true, if_true, if_false, and_self, true_or, or_true, or_false, false_or, false_and, and_false, not_true_eq_false, not_false_eq_true, forall_const, reduceCtorEq, implies_true, List.contains_cons, List.contains_nil, Bool.or_false, Bool.false_or, Bool.or_true, Bool.true_or, Bool.and_true, Bool.true_and, Bool.and_false, Bool.false_and, Bool.not_true, Bool.not_false, BEq.rfl, Bool.false_eq_true, Bool.true_eq_false, eq_self, ↓reduceIte, Nat.reduceAdd, Nat.reduceEqDiff, Nat.reduceBEq, Nat.reduceLT, Nat.reduceLeDiff, Nat.reduceSub, Nat.reduceMul, Nat.reduceBNe, List.append_nil, Nat.zero_le, Nat.zero_add, Nat.zero_ne_one, Nat.one_ne_zero, false_implies, true_implies, not_false_eq_true, ne_eq, upd_e, updL_e, bI_zo, nI0z, nI1o, nI1z, nI0o, nI0q, nI1q, nm1_lt, nm1_ge, ax_iload_n tX0_isWorkingDay_0, ax_bipush tX0_isWorkingDay_1, ax_irem tX0_isWorkingDay_3, ax_iconst tX0_isWorkingDay_4, ax_icmp_ge tX0_isWorkingDay_5, ax_iconst tX0_isWorkingDay_8, ax_goto tX0_isWorkingDay_9, ax_iconst tX0_isWorkingDay_12, ax_iretZ tX0_isWorkingDay_13, pk_rem hk (show 0 < 7 by omega) (show 7 < 2 ^ 31 by omega)]
  unfold wkN at hq
  have : k % 7 < 7 := Nat.mod_lt _ (by omega)
  generalize k % 7 = r at hq this
  simp (disch := omega) only [z0, o1, nI_add, pk_mul, nI_ltI, nI_leI, nI_eq, nI_clamp, vpn, pk_sub, Nat.add_sub_cancel, bI_0, bI_1, eq_self, true_or, or_true, or_false, false_or, true_and, and_true, false_and, and_false, and_self, or_self, forall_const, not_true_eq_false, not_false_eq_true, false_implies, implies_true, true_implies, ↓reduceIte, if_true, if_false, Nat.not_lt_zero, Nat.zero_le, Nat.le_refl, Nat.lt_irrefl, ne_eq, reduceCtorEq, Bool.false_eq_true]
  refine ⟨fun c => ?_, fun c => ?_⟩
  · rw [if_neg (by omega)] at hq; exact hq
  · rw [if_pos (by omega)] at hq; exact hq
set_option maxHeartbeats 800000 in
theorem x_hasWord_loop {w : Nat} (ha : ASK h z V W) (hw : w < 2 ^ 31) (hq : Q (some (.int (bI (anyN (fun k => W k == w) (V 6))))) h) : ∀ q i, V 6 ≤ i + q → i ≤ V 6 → (∀ j, j < i → (W j == w) = false) → gG B mX0_hasWord (d + 1) 0 0 2 [(0, .ref (z 0)), (1, .int (nI w)), (2, .int (nI i))] [] h Q := by
  obtain ⟨⟨k0, r5, k5, n5⟩, ⟨v0, v1, v2, v3, v4, v6, v7, v9, v10, v11, v12⟩, b6, b10, b11, b12, bv, aw, bw⟩ := ha
  have fin : ∀ i, i = V 6 → (∀ j, j < i → (W j == w) = false) → gG B mX0_hasWord (d + 1) 0 0 2 [(0, .ref (z 0)), (1, .int (nI w)), (2, .int (nI i))] [] h Q := by
    intro i e hf
    subst e
    refine gAx (cut := []) okX0_hasWord 60 ?_
    simp only [axC_nil, axC_hit, axC_def, cutAt, lvLive, Option.isSome_none, Option.isSome_some, catS, lvGet, lvIns, lvSet1, lvSet2, gLit_0, gLit_1, lv_args, fv0, fv1, fv2, fv3, isI_s, isL_s, isRf_s, isRf_n, gtI_s, gtL_s, gtV_s, gFilter_nil, gFilter_cons, gL1, gL2, gL3, gL4, gL5, va_rf_s, va_rf_n, hK_sI, hK_sR, hK_sA, hK_sJ, hK_sO, hI_sI, hI_sR, hI_sA, hI_sJ, hI_sO, hR_sI, hR_sR, hR_sA, hR_sJ, hR_sO, hN_sI, hN_sR, hN_sA, hN_sJ, hN_sO, hA_sI, hA_sR, hA_sA, hA_sJ, hA_sO, hJ_sI, hJ_sR, hJ_sA, hJ_sJ, hJ_sO, hO_sI, hO_sR, hO_sA, hO_sJ, hO_sO, up3_eq, up2_eq, List.map_cons, List.map_nil, List.sum_cons, List.sum_nil, List.nil_append, List.cons_append, Option.toList_some, Option.toList_none, true_and, and_true, if_true, if_false, and_self, true_or, or_true, or_false, false_or, false_and, and_false, not_true_eq_false, not_false_eq_true, forall_const, reduceCtorEq, implies_true, List.contains_cons, List.contains_nil, Bool.or_false, Bool.false_or, Bool.or_true, Bool.true_or, Bool.and_true, Bool.true_and, Bool.and_false, Bool.false_and, Bool.not_true, Bool.not_false, BEq.rfl, Bool.false_eq_true, Bool.true_eq_false, eq_self, ↓reduceIte, Nat.reduceAdd, Nat.reduceEqDiff, Nat.reduceBEq, Nat.reduceLT, Nat.reduceLeDiff, Nat.reduceSub, Nat.reduceMul, Nat.reduceBNe, List.append_nil, Nat.zero_le, Nat.zero_add, Nat.zero_ne_one, Nat.one_ne_zero, false_implies, true_implies, not_false_eq_true, ne_eq, upd_e, updL_e, bI_zo, nI0z, nI1o, nI1z, nI0o, nI0q, nI1q, nm1_lt, nm1_ge, ax_iconst tX0_hasWord_0, ax_istore_n tX0_hasWord_1, ax_iload_n tX0_hasWord_2, ax_aload_n tX0_hasWord_3, ax_getI tX0_hasWord_4, ax_icmp_ge tX0_hasWord_7, ax_aload_n tX0_hasWord_10, ax_getR tX0_hasWord_11, ax_iload_n tX0_hasWord_14, ax_iaload tX0_hasWord_15, ax_iload_n tX0_hasWord_16, ax_icmp_ne tX0_hasWord_17, ax_iconst tX0_hasWord_20, ax_iretZ tX0_hasWord_21, ax_iinc tX0_hasWord_22, ax_goto tX0_hasWord_25, ax_iconst tX0_hasWord_28, ax_iretZ tX0_hasWord_29, k0, r5, v6]
    simp (disch := omega) only [z0, o1, nI_add, pk_mul, nI_ltI, nI_leI, nI_eq, nI_clamp, vpn, pk_sub, Nat.add_sub_cancel, bI_0, bI_1, eq_self, true_or, or_true, or_false, false_or, true_and, and_true, false_and, and_false, and_self, or_self, forall_const, not_true_eq_false, not_false_eq_true, false_implies, implies_true, true_implies, ↓reduceIte, if_true, if_false, Nat.not_lt_zero, Nat.zero_le, Nat.le_refl, Nat.lt_irrefl, ne_eq, reduceCtorEq, Bool.false_eq_true]
    rw [anyN_f hf] at hq
    exact hq
  intro q
  induction q with
  | zero => intro i h1 h2 hf; exact fin i (by omega) hf
  | succ q ih =>
    intro i h1 h2 hf
    by_cases e : i = V 6
    · exact fin i e hf
    have K := fun (hb : (W i == w) = false) => ih (i + 1) (by omega) (by omega) (fun j hj => by
      by_cases ej : j = i
      · subst ej; exact hb
      · exact hf j (by omega))
    have bwi := bw i
    refine gAx (cut := [(2, [0, 1, 2])]) okX0_hasWord 60 ?_
    simp only [axC_nil, axC_hit, axC_def, cutAt, lvLive, Option.isSome_none, Option.isSome_some, catS, lvGet, lvIns, lvSet1, lvSet2, gLit_0, gLit_1, lv_args, fv0, fv1, fv2, fv3, isI_s, isL_s, isRf_s, isRf_n, gtI_s, gtL_s, gtV_s, gFilter_nil, gFilter_cons, gL1, gL2, gL3, gL4, gL5, va_rf_s, va_rf_n, hK_sI, hK_sR, hK_sA, hK_sJ, hK_sO, hI_sI, hI_sR, hI_sA, hI_sJ, hI_sO, hR_sI, hR_sR, hR_sA, hR_sJ, hR_sO, hN_sI, hN_sR, hN_sA, hN_sJ, hN_sO, hA_sI, hA_sR, hA_sA, hA_sJ, hA_sO, hJ_sI, hJ_sR, hJ_sA, hJ_sJ, hJ_sO, hO_sI, hO_sR, hO_sA, hO_sJ, hO_sO, up3_eq, up2_eq, List.map_cons, List.map_nil, List.sum_cons, List.sum_nil, List.nil_append, List.cons_append, Option.toList_some, Option.toList_none, true_and, and_true, if_true, if_false, and_self, true_or, or_true, or_false, false_or, false_and, and_false, not_true_eq_false, not_false_eq_true, forall_const, reduceCtorEq, implies_true, List.contains_cons, List.contains_nil, Bool.or_false, Bool.false_or, Bool.or_true, Bool.true_or, Bool.and_true, Bool.true_and, Bool.and_false, Bool.false_and, Bool.not_true, Bool.not_false, BEq.rfl, Bool.false_eq_true, Bool.true_eq_false, eq_self, ↓reduceIte, Nat.reduceAdd, Nat.reduceEqDiff, Nat.reduceBEq, Nat.reduceLT, Nat.reduceLeDiff, Nat.reduceSub, Nat.reduceMul, Nat.reduceBNe, List.append_nil, Nat.zero_le, Nat.zero_add, Nat.zero_ne_one, Nat.one_ne_zero, false_implies, true_implies, not_false_eq_true, ne_eq, upd_e, updL_e, bI_zo, nI0z, nI1o, nI1z, nI0o, nI0q, nI1q, nm1_lt, nm1_ge, ax_iconst tX0_hasWord_0, ax_istore_n tX0_hasWord_1, ax_iload_n tX0_hasWord_2, ax_aload_n tX0_hasWord_3, ax_getI tX0_hasWord_4, ax_icmp_ge tX0_hasWord_7, ax_aload_n tX0_hasWord_10, ax_getR tX0_hasWord_11, ax_iload_n tX0_hasWord_14, ax_iaload tX0_hasWord_15, ax_iload_n tX0_hasWord_16, ax_icmp_ne tX0_hasWord_17, ax_iconst tX0_hasWord_20, ax_iretZ tX0_hasWord_21, ax_iinc tX0_hasWord_22, ax_goto tX0_hasWord_25, ax_iconst tX0_hasWord_28, ax_iretZ tX0_hasWord_29, k0, r5, v6, k5, n5]
    simp (disch := omega) only [z0, o1, nI_add, pk_mul, nI_ltI, nI_leI, nI_eq, nI_clamp, vpn, pk_sub, Nat.add_sub_cancel, bI_0, bI_1, eq_self, true_or, or_true, or_false, false_or, true_and, and_true, false_and, and_false, and_self, or_self, forall_const, not_true_eq_false, not_false_eq_true, false_implies, implies_true, true_implies, ↓reduceIte, if_true, if_false, Nat.not_lt_zero, Nat.zero_le, Nat.le_refl, Nat.lt_irrefl, ne_eq, reduceCtorEq, Bool.false_eq_true]
    simp (disch := omega) only [aw]
    simp (disch := omega) only [z0, o1, nI_add, pk_mul, nI_ltI, nI_leI, nI_eq, nI_clamp, vpn, pk_sub, Nat.add_sub_cancel, bI_0, bI_1, eq_self, true_or, or_true, or_false, false_or, true_and, and_true, false_and, and_false, and_self, or_self, forall_const, not_true_eq_false, not_false_eq_true, false_implies, implies_true, true_implies, ↓reduceIte, if_true, if_false, Nat.not_lt_zero, Nat.zero_le, Nat.le_refl, Nat.lt_irrefl, ne_eq, reduceCtorEq, Bool.false_eq_true]
    refine ⟨fun c => absurd c (by omega), fun c => ⟨by omega, fun c1 => K (beq_false_of_ne c1), fun c1 => ?_⟩⟩
    rw [anyN_t (f := fun k => W k == w) (i := i) (by omega) (by simpa using c1)] at hq
    exact hq
set_option maxHeartbeats 800000 in
theorem x_hasWord {w : Nat} (ha : ASK h z V W) (hw : w < 2 ^ 31) (hq : Q (some (.int (bI (anyN (fun k => W k == w) (V 6))))) h) : gFn B mX0_hasWord (d + 1) 0 0 [.ref (z 0), .int (nI w)] h Q := by
  have Lp := x_hasWord_loop (B := B) (d := d) ha hw hq (V 6) 0 (by omega) (by omega) (fun j hj => by omega)
  refine gStartX (cut := [(2, [0, 1, 2])]) pnX0_hasWord okX0_hasWord (Nat.le_of_ble_eq_true rfl) 60 ?_
  simp only [axC_nil, axC_hit, axC_def, cutAt, lvLive, Option.isSome_none, Option.isSome_some, catS, lvGet, lvIns, lvSet1, lvSet2, gLit_0, gLit_1, lv_args, fv0, fv1, fv2, fv3, isI_s, isL_s, isRf_s, isRf_n, gtI_s, gtL_s, gtV_s, gFilter_nil, gFilter_cons, gL1, gL2, gL3, gL4, gL5, va_rf_s, va_rf_n, hK_sI, hK_sR, hK_sA, hK_sJ, hK_sO, hI_sI, hI_sR, hI_sA, hI_sJ, hI_sO, hR_sI, hR_sR, hR_sA, hR_sJ, hR_sO, hN_sI, hN_sR, hN_sA, hN_sJ, hN_sO, hA_sI, hA_sR, hA_sA, hA_sJ, hA_sO, hJ_sI, hJ_sR, hJ_sA, hJ_sJ, hJ_sO, hO_sI, hO_sR, hO_sA, hO_sJ, hO_sO, up3_eq, up2_eq, List.map_cons, List.map_nil, List.sum_cons, List.sum_nil, List.nil_append, List.cons_append, Option.toList_some, Option.toList_none, true_and, and_true, if_true, if_false, and_self, true_or, or_true, or_false, false_or, false_and, and_false, not_true_eq_false, not_false_eq_true, forall_const, reduceCtorEq, implies_true, List.contains_cons, List.contains_nil, Bool.or_false, Bool.false_or, Bool.or_true, Bool.true_or, Bool.and_true, Bool.true_and, Bool.and_false, Bool.false_and, Bool.not_true, Bool.not_false, BEq.rfl, Bool.false_eq_true, Bool.true_eq_false, eq_self, ↓reduceIte, Nat.reduceAdd, Nat.reduceEqDiff, Nat.reduceBEq, Nat.reduceLT, Nat.reduceLeDiff, Nat.reduceSub, Nat.reduceMul, Nat.reduceBNe, List.append_nil, Nat.zero_le, Nat.zero_add, Nat.zero_ne_one, Nat.one_ne_zero, false_implies, true_implies, not_false_eq_true, ne_eq, upd_e, updL_e, bI_zo, nI0z, nI1o, nI1z, nI0o, nI0q, nI1q, nm1_lt, nm1_ge, ax_iconst tX0_hasWord_0, ax_istore_n tX0_hasWord_1, ax_iload_n tX0_hasWord_2, ax_aload_n tX0_hasWord_3, ax_getI tX0_hasWord_4, ax_icmp_ge tX0_hasWord_7, ax_aload_n tX0_hasWord_10, ax_getR tX0_hasWord_11, ax_iload_n tX0_hasWord_14, ax_iaload tX0_hasWord_15, ax_iload_n tX0_hasWord_16, ax_icmp_ne tX0_hasWord_17, ax_iconst tX0_hasWord_20, ax_iretZ tX0_hasWord_21, ax_iinc tX0_hasWord_22, ax_goto tX0_hasWord_25, ax_iconst tX0_hasWord_28, ax_iretZ tX0_hasWord_29]
  exact Lp
set_option maxHeartbeats 800000 in
theorem x_hasWordsOf_loop (ha : ASK h z V W) (ha2 : ASK h z2 V2 W2) (hq : Q (some (.int (bI (allN (fun k => anyN (fun j => W j == W2 k) (V 6)) (V2 6))))) h) : ∀ q i, V2 6 ≤ i + q → i ≤ V2 6 → (∀ j, j < i → anyN (fun k => W k == W2 j) (V 6) = true) → gG B mX0_hasWordsOf (d + 2) 0 0 2 [(0, .ref (z 0)), (1, .ref (z2 0)), (2, .int (nI i))] [] h Q := by
  have k00 := ha.1.1
  obtain ⟨⟨k0, r5, k5, n5⟩, ⟨v0, v1, v2, v3, v4, v6, v7, v9, v10, v11, v12⟩, b6, b10, b11, b12, bv, aw, bw⟩ := ha2
  have fin : ∀ i, i = V2 6 → (∀ j, j < i → anyN (fun k => W k == W2 j) (V 6) = true) → gG B mX0_hasWordsOf (d + 2) 0 0 2 [(0, .ref (z 0)), (1, .ref (z2 0)), (2, .int (nI i))] [] h Q := by
    intro i e hf
    subst e
    refine gAx (cut := []) okX0_hasWordsOf 60 ?_
    simp only [axC_nil, axC_hit, axC_def, cutAt, lvLive, Option.isSome_none, Option.isSome_some, catS, lvGet, lvIns, lvSet1, lvSet2, gLit_0, gLit_1, lv_args, fv0, fv1, fv2, fv3, isI_s, isL_s, isRf_s, isRf_n, gtI_s, gtL_s, gtV_s, gFilter_nil, gFilter_cons, gL1, gL2, gL3, gL4, gL5, va_rf_s, va_rf_n, hK_sI, hK_sR, hK_sA, hK_sJ, hK_sO, hI_sI, hI_sR, hI_sA, hI_sJ, hI_sO, hR_sI, hR_sR, hR_sA, hR_sJ, hR_sO, hN_sI, hN_sR, hN_sA, hN_sJ, hN_sO, hA_sI, hA_sR, hA_sA, hA_sJ, hA_sO, hJ_sI, hJ_sR, hJ_sA, hJ_sJ, hJ_sO, hO_sI, hO_sR, hO_sA, hO_sJ, hO_sO, up3_eq, up2_eq, List.map_cons, List.map_nil, List.sum_cons, List.sum_nil, List.nil_append, List.cons_append, Option.toList_some, Option.toList_none, true_and, and_true, if_true, if_false, and_self, true_or, or_true, or_false, false_or, false_and, and_false, not_true_eq_false, not_false_eq_true, forall_const, reduceCtorEq, implies_true, List.contains_cons, List.contains_nil, Bool.or_false, Bool.false_or, Bool.or_true, Bool.true_or, Bool.and_true, Bool.true_and, Bool.and_false, Bool.false_and, Bool.not_true, Bool.not_false, BEq.rfl, Bool.false_eq_true, Bool.true_eq_false, eq_self, ↓reduceIte, Nat.reduceAdd, Nat.reduceEqDiff, Nat.reduceBEq, Nat.reduceLT, Nat.reduceLeDiff, Nat.reduceSub, Nat.reduceMul, Nat.reduceBNe, List.append_nil, Nat.zero_le, Nat.zero_add, Nat.zero_ne_one, Nat.one_ne_zero, false_implies, true_implies, not_false_eq_true, ne_eq, upd_e, updL_e, bI_zo, nI0z, nI1o, nI1z, nI0o, nI0q, nI1q, nm1_lt, nm1_ge, ax_iconst tX0_hasWordsOf_0, ax_istore_n tX0_hasWordsOf_1, ax_iload_n tX0_hasWordsOf_2, ax_aload_n tX0_hasWordsOf_3, ax_getI tX0_hasWordsOf_4, ax_icmp_ge tX0_hasWordsOf_7, ax_aload_n tX0_hasWordsOf_10, ax_aload_n tX0_hasWordsOf_11, ax_getR tX0_hasWordsOf_12, ax_iload_n tX0_hasWordsOf_15, ax_iaload tX0_hasWordsOf_16, ax_callV1 tX0_hasWordsOf_17, ax_if_ne tX0_hasWordsOf_20, ax_iconst tX0_hasWordsOf_23, ax_iretZ tX0_hasWordsOf_24, ax_iinc tX0_hasWordsOf_25, ax_goto tX0_hasWordsOf_28, ax_iconst tX0_hasWordsOf_31, ax_iretZ tX0_hasWordsOf_32, f_2, k0, r5, v6]
    simp (disch := omega) only [z0, o1, nI_add, pk_mul, nI_ltI, nI_leI, nI_eq, nI_clamp, vpn, pk_sub, Nat.add_sub_cancel, bI_0, bI_1, eq_self, true_or, or_true, or_false, false_or, true_and, and_true, false_and, and_false, and_self, or_self, forall_const, not_true_eq_false, not_false_eq_true, false_implies, implies_true, true_implies, ↓reduceIte, if_true, if_false, Nat.not_lt_zero, Nat.zero_le, Nat.le_refl, Nat.lt_irrefl, ne_eq, reduceCtorEq, Bool.false_eq_true]
    rw [(allN_iff _ _).mpr hf] at hq
    exact hq
  intro q
  induction q with
  | zero => intro i h1 h2 hf; exact fin i (by omega) hf
  | succ q ih =>
    intro i h1 h2 hf
    by_cases e : i = V2 6
    · exact fin i e hf
    have K := fun (hb : anyN (fun k => W k == W2 i) (V 6) = true) => ih (i + 1) (by omega) (by omega) (fun j hj => by
      by_cases ej : j = i
      · subst ej; exact hb
      · exact hf j (by omega))
    have bwi := bw i
    refine gAx (cut := [(2, [0, 1, 2])]) okX0_hasWordsOf 60 ?_
    simp only [axC_nil, axC_hit, axC_def, cutAt, lvLive, Option.isSome_none, Option.isSome_some, catS, lvGet, lvIns, lvSet1, lvSet2, gLit_0, gLit_1, lv_args, fv0, fv1, fv2, fv3, isI_s, isL_s, isRf_s, isRf_n, gtI_s, gtL_s, gtV_s, gFilter_nil, gFilter_cons, gL1, gL2, gL3, gL4, gL5, va_rf_s, va_rf_n, hK_sI, hK_sR, hK_sA, hK_sJ, hK_sO, hI_sI, hI_sR, hI_sA, hI_sJ, hI_sO, hR_sI, hR_sR, hR_sA, hR_sJ, hR_sO, hN_sI, hN_sR, hN_sA, hN_sJ, hN_sO, hA_sI, hA_sR, hA_sA, hA_sJ, hA_sO, hJ_sI, hJ_sR, hJ_sA, hJ_sJ, hJ_sO, hO_sI, hO_sR, hO_sA, hO_sJ, hO_sO, up3_eq, up2_eq, List.map_cons, List.map_nil, List.sum_cons, List.sum_nil, List.nil_append, List.cons_append, Option.toList_some, Option.toList_none, true_and, and_true, if_true, if_false, and_self, true_or, or_true, or_false, false_or, false_and, and_false, not_true_eq_false, not_false_eq_true, forall_const, reduceCtorEq, implies_true, List.contains_cons, List.contains_nil, Bool.or_false, Bool.false_or, Bool.or_true, Bool.true_or, Bool.and_true, Bool.true_and, Bool.and_false, Bool.false_and, Bool.not_true, Bool.not_false, BEq.rfl, Bool.false_eq_true, Bool.true_eq_false, eq_self, ↓reduceIte, Nat.reduceAdd, Nat.reduceEqDiff, Nat.reduceBEq, Nat.reduceLT, Nat.reduceLeDiff, Nat.reduceSub, Nat.reduceMul, Nat.reduceBNe, List.append_nil, Nat.zero_le, Nat.zero_add, Nat.zero_ne_one, Nat.one_ne_zero, false_implies, true_implies, not_false_eq_true, ne_eq, upd_e, updL_e, bI_zo, nI0z, nI1o, nI1z, nI0o, nI0q, nI1q, nm1_lt, nm1_ge, ax_iconst tX0_hasWordsOf_0, ax_istore_n tX0_hasWordsOf_1, ax_iload_n tX0_hasWordsOf_2, ax_aload_n tX0_hasWordsOf_3, ax_getI tX0_hasWordsOf_4, ax_icmp_ge tX0_hasWordsOf_7, ax_aload_n tX0_hasWordsOf_10, ax_aload_n tX0_hasWordsOf_11, ax_getR tX0_hasWordsOf_12, ax_iload_n tX0_hasWordsOf_15, ax_iaload tX0_hasWordsOf_16, ax_callV1 tX0_hasWordsOf_17, ax_if_ne tX0_hasWordsOf_20, ax_iconst tX0_hasWordsOf_23, ax_iretZ tX0_hasWordsOf_24, ax_iinc tX0_hasWordsOf_25, ax_goto tX0_hasWordsOf_28, ax_iconst tX0_hasWordsOf_31, ax_iretZ tX0_hasWordsOf_32, f_2, k0, k00, r5, v6, k5, n5]
    simp (disch := omega) only [z0, o1, nI_add, pk_mul, nI_ltI, nI_leI, nI_eq, nI_clamp, vpn, pk_sub, Nat.add_sub_cancel, bI_0, bI_1, eq_self, true_or, or_true, or_false, false_or, true_and, and_true, false_and, and_false, and_self, or_self, forall_const, not_true_eq_false, not_false_eq_true, false_implies, implies_true, true_implies, ↓reduceIte, if_true, if_false, Nat.not_lt_zero, Nat.zero_le, Nat.le_refl, Nat.lt_irrefl, ne_eq, reduceCtorEq, Bool.false_eq_true]
    simp (disch := omega) only [aw]
    refine ⟨fun c => absurd c (by omega), fun c => ⟨by omega, ?_⟩⟩
    refine x_hasWord ha bwi ?_
    refine gAx (cut := [(2, [0, 1, 2])]) okX0_hasWordsOf 60 ?_
    simp only [axC_nil, axC_hit, axC_def, cutAt, lvLive, Option.isSome_none, Option.isSome_some, catS, lvGet, lvIns, lvSet1, lvSet2, gLit_0, gLit_1, lv_args, fv0, fv1, fv2, fv3, isI_s, isL_s, isRf_s, isRf_n, gtI_s, gtL_s, gtV_s, gFilter_nil, gFilter_cons, gL1, gL2, gL3, gL4, gL5, va_rf_s, va_rf_n, hK_sI, hK_sR, hK_sA, hK_sJ, hK_sO, hI_sI, hI_sR, hI_sA, hI_sJ, hI_sO, hR_sI, hR_sR, hR_sA, hR_sJ, hR_sO, hN_sI, hN_sR, hN_sA, hN_sJ, hN_sO, hA_sI, hA_sR, hA_sA, hA_sJ, hA_sO, hJ_sI, hJ_sR, hJ_sA, hJ_sJ, hJ_sO, hO_sI, hO_sR, hO_sA, hO_sJ, hO_sO, up3_eq, up2_eq, List.map_cons, List.map_nil, List.sum_cons, List.sum_nil, List.nil_append, List.cons_append, Option.toList_some, Option.toList_none, true_and, and_true, if_true, if_false, and_self, true_or, or_true, or_false, false_or, false_and, and_false, not_true_eq_false, not_false_eq_true, forall_const, reduceCtorEq, implies_true, List.contains_cons, List.contains_nil, Bool.or_false, Bool.false_or, Bool.or_true, Bool.true_or, Bool.and_true, Bool.true_and, Bool.and_false, Bool.false_and, Bool.not_true, Bool.not_false, BEq.rfl, Bool.false_eq_true, Bool.true_eq_false, eq_self, ↓reduceIte, Nat.reduceAdd, Nat.reduceEqDiff, Nat.reduceBEq, Nat.reduceLT, Nat.reduceLeDiff, Nat.reduceSub, Nat.reduceMul, Nat.reduceBNe, List.append_nil, Nat.zero_le, Nat.zero_add, Nat.zero_ne_one, Nat.one_ne_zero, false_implies, true_implies, not_false_eq_true, ne_eq, upd_e, updL_e, bI_zo, nI0z, nI1o, nI1z, nI0o, nI0q, nI1q, nm1_lt, nm1_ge, ax_iconst tX0_hasWordsOf_0, ax_istore_n tX0_hasWordsOf_1, ax_iload_n tX0_hasWordsOf_2, ax_aload_n tX0_hasWordsOf_3, ax_getI tX0_hasWordsOf_4, ax_icmp_ge tX0_hasWordsOf_7, ax_aload_n tX0_hasWordsOf_10, ax_aload_n tX0_hasWordsOf_11, ax_getR tX0_hasWordsOf_12, ax_iload_n tX0_hasWordsOf_15, ax_iaload tX0_hasWordsOf_16, ax_callV1 tX0_hasWordsOf_17, ax_if_ne tX0_hasWordsOf_20, ax_iconst tX0_hasWordsOf_23, ax_iretZ tX0_hasWordsOf_24, ax_iinc tX0_hasWordsOf_25, ax_goto tX0_hasWordsOf_28, ax_iconst tX0_hasWordsOf_31, ax_iretZ tX0_hasWordsOf_32, f_2]
    simp (disch := omega) only [z0, o1, nI_add, pk_mul, nI_ltI, nI_leI, nI_eq, nI_clamp, vpn, pk_sub, Nat.add_sub_cancel, bI_0, bI_1, eq_self, true_or, or_true, or_false, false_or, true_and, and_true, false_and, and_false, and_self, or_self, forall_const, not_true_eq_false, not_false_eq_true, false_implies, implies_true, true_implies, ↓reduceIte, if_true, if_false, Nat.not_lt_zero, Nat.zero_le, Nat.le_refl, Nat.lt_irrefl, ne_eq, reduceCtorEq, Bool.false_eq_true]
    refine ⟨fun c => K (by simpa using c), fun c => ?_⟩
    have : allN (fun k => anyN (fun j => W j == W2 k) (V 6)) (V2 6) = false := by
      rcases e2 : allN (fun k => anyN (fun j => W j == W2 k) (V 6)) (V2 6)
      · rfl
      · have := (allN_iff _ _).mp e2 i (by omega)
        rw [c] at this
        cases this
    rw [this] at hq
    exact hq
set_option maxHeartbeats 800000 in
theorem x_hasWordsOf (ha : ASK h z V W) (ha2 : ASK h z2 V2 W2) (hq : Q (some (.int (bI (allN (fun k => anyN (fun j => W j == W2 k) (V 6)) (V2 6))))) h) : gFn B mX0_hasWordsOf (d + 2) 0 0 [.ref (z 0), .ref (z2 0)] h Q := by
  have Lp := x_hasWordsOf_loop (B := B) (d := d) ha ha2 hq (V2 6) 0 (by omega) (by omega) (fun j hj => by omega)
  refine gStartX (cut := [(2, [0, 1, 2])]) pnX0_hasWordsOf okX0_hasWordsOf (Nat.le_of_ble_eq_true rfl) 60 ?_
  simp only [axC_nil, axC_hit, axC_def, cutAt, lvLive, Option.isSome_none, Option.isSome_some, catS, lvGet, lvIns, lvSet1, lvSet2, gLit_0, gLit_1, lv_args, fv0, fv1, fv2, fv3, isI_s, isL_s, isRf_s, isRf_n, gtI_s, gtL_s, gtV_s, gFilter_nil, gFilter_cons, gL1, gL2, gL3, gL4, gL5, va_rf_s, va_rf_n, hK_sI, hK_sR, hK_sA, hK_sJ, hK_sO, hI_sI, hI_sR, hI_sA, hI_sJ, hI_sO, hR_sI, hR_sR, hR_sA, hR_sJ, hR_sO, hN_sI, hN_sR, hN_sA, hN_sJ, hN_sO, hA_sI, hA_sR, hA_sA, hA_sJ, hA_sO, hJ_sI, hJ_sR, hJ_sA, hJ_sJ, hJ_sO, hO_sI, hO_sR, hO_sA, hO_sJ, hO_sO, up3_eq, up2_eq, List.map_cons, List.map_nil, List.sum_cons, List.sum_nil, List.nil_append, List.cons_append, Option.toList_some, Option.toList_none, true_and, and_true, if_true, if_false, and_self, true_or, or_true, or_false, false_or, false_and, and_false, not_true_eq_false, not_false_eq_true, forall_const, reduceCtorEq, implies_true, List.contains_cons, List.contains_nil, Bool.or_false, Bool.false_or, Bool.or_true, Bool.true_or, Bool.and_true, Bool.true_and, Bool.and_false, Bool.false_and, Bool.not_true, Bool.not_false, BEq.rfl, Bool.false_eq_true, Bool.true_eq_false, eq_self, ↓reduceIte, Nat.reduceAdd, Nat.reduceEqDiff, Nat.reduceBEq, Nat.reduceLT, Nat.reduceLeDiff, Nat.reduceSub, Nat.reduceMul, Nat.reduceBNe, List.append_nil, Nat.zero_le, Nat.zero_add, Nat.zero_ne_one, Nat.one_ne_zero, false_implies, true_implies, not_false_eq_true, ne_eq, upd_e, updL_e, bI_zo, nI0z, nI1o, nI1z, nI0o, nI0q, nI1q, nm1_lt, nm1_ge, ax_iconst tX0_hasWordsOf_0, ax_istore_n tX0_hasWordsOf_1, ax_iload_n tX0_hasWordsOf_2, ax_aload_n tX0_hasWordsOf_3, ax_getI tX0_hasWordsOf_4, ax_icmp_ge tX0_hasWordsOf_7, ax_aload_n tX0_hasWordsOf_10, ax_aload_n tX0_hasWordsOf_11, ax_getR tX0_hasWordsOf_12, ax_iload_n tX0_hasWordsOf_15, ax_iaload tX0_hasWordsOf_16, ax_callV1 tX0_hasWordsOf_17, ax_if_ne tX0_hasWordsOf_20, ax_iconst tX0_hasWordsOf_23, ax_iretZ tX0_hasWordsOf_24, ax_iinc tX0_hasWordsOf_25, ax_goto tX0_hasWordsOf_28, ax_iconst tX0_hasWordsOf_31, ax_iretZ tX0_hasWordsOf_32, f_2]
  exact Lp
/-- two asks ask the same -/
def smK (V W V2 W2 : Nat → Nat) : Bool := (V 1 == V2 1) && ((V 2 == V2 2) && ((V 3 == V2 3) && (allN (fun k => anyN (fun j => W j == W2 k) (V 6)) (V2 6) && allN (fun k => anyN (fun j => W2 j == W k) (V2 6)) (V 6))))
set_option maxHeartbeats 1600000 in
theorem x_asksSameAs (ha : ASK h z V W) (ha2 : ASK h z2 V2 W2) (hq : Q (some (.int (bI (smK V W V2 W2)))) h) : gFn B mX0_asksSameAs (d + 3) 0 0 [.ref (z 0), .ref (z2 0)] h Q := by
  obtain ⟨⟨k0, r5, k5, n5⟩, ⟨v0, v1, v2, v3, v4, v6, v7, v9, v10, v11, v12⟩, b6, b10, b11, b12, bv, aw, bw⟩ := id ha
  obtain ⟨⟨K0, R5, K5, N5⟩, ⟨u0, u1, u2, u3, u4, u6, u7, u9, u10, u11, u12⟩, B6, B10, B11, B12, Bv, Aw, Bw⟩ := id ha2
  have f1 := bv 1
  have f2 := bv 2
  have f3 := bv 3
  have g1 := Bv 1
  have g2 := Bv 2
  have g3 := Bv 3
  refine gStartX (cut := []) pnX0_asksSameAs okX0_asksSameAs (Nat.le_of_ble_eq_true rfl) 60 ?_
  simp only [axC_nil, axC_hit, axC_def, cutAt, lvLive, Option.isSome_none, Option.isSome_some, catS, lvGet, lvIns, lvSet1, lvSet2, gLit_0, gLit_1, lv_args, fv0, fv1, fv2, fv3, isI_s, isL_s, isRf_s, isRf_n, gtI_s, gtL_s, gtV_s, gFilter_nil, gFilter_cons, gL1, gL2, gL3, gL4, gL5, va_rf_s, va_rf_n, hK_sI, hK_sR, hK_sA, hK_sJ, hK_sO, hI_sI, hI_sR, hI_sA, hI_sJ, hI_sO, hR_sI, hR_sR, hR_sA, hR_sJ, hR_sO, hN_sI, hN_sR, hN_sA, hN_sJ, hN_sO, hA_sI, hA_sR, hA_sA, hA_sJ, hA_sO, hJ_sI, hJ_sR, hJ_sA, hJ_sJ, hJ_sO, hO_sI, hO_sR, hO_sA, hO_sJ, hO_sO, up3_eq, up2_eq, List.map_cons, List.map_nil, List.sum_cons, List.sum_nil, List.nil_append, List.cons_append, Option.toList_some, Option.toList_none, true_and, and_true, if_true, if_false, and_self, true_or, or_true, or_false, false_or, false_and, and_false, not_true_eq_false, not_false_eq_true, forall_const, reduceCtorEq, implies_true, List.contains_cons, List.contains_nil, Bool.or_false, Bool.false_or, Bool.or_true, Bool.true_or, Bool.and_true, Bool.true_and, Bool.and_false, Bool.false_and, Bool.not_true, Bool.not_false, BEq.rfl, Bool.false_eq_true, Bool.true_eq_false, eq_self, ↓reduceIte, Nat.reduceAdd, Nat.reduceEqDiff, Nat.reduceBEq, Nat.reduceLT, Nat.reduceLeDiff, Nat.reduceSub, Nat.reduceMul, Nat.reduceBNe, List.append_nil, Nat.zero_le, Nat.zero_add, Nat.zero_ne_one, Nat.one_ne_zero, false_implies, true_implies, not_false_eq_true, ne_eq, upd_e, updL_e, bI_zo, nI0z, nI1o, nI1z, nI0o, nI0q, nI1q, nm1_lt, nm1_ge, ax_aload_n tX0_asksSameAs_0, ax_getI tX0_asksSameAs_1, ax_aload_n tX0_asksSameAs_4, ax_getI tX0_asksSameAs_5, ax_icmp_ne tX0_asksSameAs_8, ax_aload_n tX0_asksSameAs_11, ax_getI tX0_asksSameAs_12, ax_aload_n tX0_asksSameAs_15, ax_getI tX0_asksSameAs_16, ax_icmp_ne tX0_asksSameAs_19, ax_aload_n tX0_asksSameAs_22, ax_getI tX0_asksSameAs_23, ax_aload_n tX0_asksSameAs_26, ax_getI tX0_asksSameAs_27, ax_icmp_ne tX0_asksSameAs_30, ax_iconst tX0_asksSameAs_33, ax_goto tX0_asksSameAs_34, ax_iconst tX0_asksSameAs_37, ax_istore_n tX0_asksSameAs_38, ax_iload_n tX0_asksSameAs_39, ax_if_eq tX0_asksSameAs_40, ax_aload_n tX0_asksSameAs_43, ax_aload_n tX0_asksSameAs_44, ax_callV1 tX0_asksSameAs_45, ax_if_eq tX0_asksSameAs_48, ax_aload_n tX0_asksSameAs_51, ax_aload_n tX0_asksSameAs_52, ax_callV1 tX0_asksSameAs_53, ax_if_eq tX0_asksSameAs_56, ax_iconst tX0_asksSameAs_59, ax_goto tX0_asksSameAs_60, ax_iconst tX0_asksSameAs_63, ax_iretZ tX0_asksSameAs_64, f_3, k0, K0, v1, v2, v3, u1, u2, u3]
  simp (disch := omega) only [z0, o1, nI_add, pk_mul, nI_ltI, nI_leI, nI_eq, nI_clamp, vpn, pk_sub, Nat.add_sub_cancel, bI_0, bI_1, eq_self, true_or, or_true, or_false, false_or, true_and, and_true, false_and, and_false, and_self, or_self, forall_const, not_true_eq_false, not_false_eq_true, false_implies, implies_true, true_implies, ↓reduceIte, if_true, if_false, Nat.not_lt_zero, Nat.zero_le, Nat.le_refl, Nat.lt_irrefl, ne_eq, reduceCtorEq, Bool.false_eq_true]
  unfold smK at hq
  refine ⟨fun c => ?_, fun c1 => ⟨fun c => ?_, fun c2 => ⟨fun c => ?_, fun c3 => ?_⟩⟩⟩
  · rw [beq_false_of_ne c] at hq; exact hq
  · rw [beq_false_of_ne c, Bool.false_and, Bool.and_false] at hq; exact hq
  · rw [beq_false_of_ne c, Bool.false_and, Bool.and_false, Bool.and_false] at hq; exact hq
  rw [c1, c2, c3, BEq.rfl, BEq.rfl, BEq.rfl, Bool.true_and, Bool.true_and, Bool.true_and] at hq
  refine x_hasWordsOf ha ha2 ?_
  refine gAx (cut := []) okX0_asksSameAs 60 ?_
  simp only [axC_nil, axC_hit, axC_def, cutAt, lvLive, Option.isSome_none, Option.isSome_some, catS, lvGet, lvIns, lvSet1, lvSet2, gLit_0, gLit_1, lv_args, fv0, fv1, fv2, fv3, isI_s, isL_s, isRf_s, isRf_n, gtI_s, gtL_s, gtV_s, gFilter_nil, gFilter_cons, gL1, gL2, gL3, gL4, gL5, va_rf_s, va_rf_n, hK_sI, hK_sR, hK_sA, hK_sJ, hK_sO, hI_sI, hI_sR, hI_sA, hI_sJ, hI_sO, hR_sI, hR_sR, hR_sA, hR_sJ, hR_sO, hN_sI, hN_sR, hN_sA, hN_sJ, hN_sO, hA_sI, hA_sR, hA_sA, hA_sJ, hA_sO, hJ_sI, hJ_sR, hJ_sA, hJ_sJ, hJ_sO, hO_sI, hO_sR, hO_sA, hO_sJ, hO_sO, up3_eq, up2_eq, List.map_cons, List.map_nil, List.sum_cons, List.sum_nil, List.nil_append, List.cons_append, Option.toList_some, Option.toList_none, true_and, and_true, if_true, if_false, and_self, true_or, or_true, or_false, false_or, false_and, and_false, not_true_eq_false, not_false_eq_true, forall_const, reduceCtorEq, implies_true, List.contains_cons, List.contains_nil, Bool.or_false, Bool.false_or, Bool.or_true, Bool.true_or, Bool.and_true, Bool.true_and, Bool.and_false, Bool.false_and, Bool.not_true, Bool.not_false, BEq.rfl, Bool.false_eq_true, Bool.true_eq_false, eq_self, ↓reduceIte, Nat.reduceAdd, Nat.reduceEqDiff, Nat.reduceBEq, Nat.reduceLT, Nat.reduceLeDiff, Nat.reduceSub, Nat.reduceMul, Nat.reduceBNe, List.append_nil, Nat.zero_le, Nat.zero_add, Nat.zero_ne_one, Nat.one_ne_zero, false_implies, true_implies, not_false_eq_true, ne_eq, upd_e, updL_e, bI_zo, nI0z, nI1o, nI1z, nI0o, nI0q, nI1q, nm1_lt, nm1_ge, ax_aload_n tX0_asksSameAs_0, ax_getI tX0_asksSameAs_1, ax_aload_n tX0_asksSameAs_4, ax_getI tX0_asksSameAs_5, ax_icmp_ne tX0_asksSameAs_8, ax_aload_n tX0_asksSameAs_11, ax_getI tX0_asksSameAs_12, ax_aload_n tX0_asksSameAs_15, ax_getI tX0_asksSameAs_16, ax_icmp_ne tX0_asksSameAs_19, ax_aload_n tX0_asksSameAs_22, ax_getI tX0_asksSameAs_23, ax_aload_n tX0_asksSameAs_26, ax_getI tX0_asksSameAs_27, ax_icmp_ne tX0_asksSameAs_30, ax_iconst tX0_asksSameAs_33, ax_goto tX0_asksSameAs_34, ax_iconst tX0_asksSameAs_37, ax_istore_n tX0_asksSameAs_38, ax_iload_n tX0_asksSameAs_39, ax_if_eq tX0_asksSameAs_40, ax_aload_n tX0_asksSameAs_43, ax_aload_n tX0_asksSameAs_44, ax_callV1 tX0_asksSameAs_45, ax_if_eq tX0_asksSameAs_48, ax_aload_n tX0_asksSameAs_51, ax_aload_n tX0_asksSameAs_52, ax_callV1 tX0_asksSameAs_53, ax_if_eq tX0_asksSameAs_56, ax_iconst tX0_asksSameAs_59, ax_goto tX0_asksSameAs_60, ax_iconst tX0_asksSameAs_63, ax_iretZ tX0_asksSameAs_64, f_3, k0, K0]
  simp (disch := omega) only [z0, o1, nI_add, pk_mul, nI_ltI, nI_leI, nI_eq, nI_clamp, vpn, pk_sub, Nat.add_sub_cancel, bI_0, bI_1, eq_self, true_or, or_true, or_false, false_or, true_and, and_true, false_and, and_false, and_self, or_self, forall_const, not_true_eq_false, not_false_eq_true, false_implies, implies_true, true_implies, ↓reduceIte, if_true, if_false, Nat.not_lt_zero, Nat.zero_le, Nat.le_refl, Nat.lt_irrefl, ne_eq, reduceCtorEq, Bool.false_eq_true]
  refine ⟨fun c => ?_, fun c => ?_⟩
  · rw [c] at hq; exact hq
  rw [Bool.not_eq_false] at c
  rw [c, Bool.true_and] at hq
  refine x_hasWordsOf ha2 ha ?_
  refine gAx (cut := []) okX0_asksSameAs 60 ?_
  simp only [axC_nil, axC_hit, axC_def, cutAt, lvLive, Option.isSome_none, Option.isSome_some, catS, lvGet, lvIns, lvSet1, lvSet2, gLit_0, gLit_1, lv_args, fv0, fv1, fv2, fv3, isI_s, isL_s, isRf_s, isRf_n, gtI_s, gtL_s, gtV_s, gFilter_nil, gFilter_cons, gL1, gL2, gL3, gL4, gL5, va_rf_s, va_rf_n, hK_sI, hK_sR, hK_sA, hK_sJ, hK_sO, hI_sI, hI_sR, hI_sA, hI_sJ, hI_sO, hR_sI, hR_sR, hR_sA, hR_sJ, hR_sO, hN_sI, hN_sR, hN_sA, hN_sJ, hN_sO, hA_sI, hA_sR, hA_sA, hA_sJ, hA_sO, hJ_sI, hJ_sR, hJ_sA, hJ_sJ, hJ_sO, hO_sI, hO_sR, hO_sA, hO_sJ, hO_sO, up3_eq, up2_eq, List.map_cons, List.map_nil, List.sum_cons, List.sum_nil, List.nil_append, List.cons_append, Option.toList_some, Option.toList_none, true_and, and_true, if_true, if_false, and_self, true_or, or_true, or_false, false_or, false_and, and_false, not_true_eq_false, not_false_eq_true, forall_const, reduceCtorEq, implies_true, List.contains_cons, List.contains_nil, Bool.or_false, Bool.false_or, Bool.or_true, Bool.true_or, Bool.and_true, Bool.true_and, Bool.and_false, Bool.false_and, Bool.not_true, Bool.not_false, BEq.rfl, Bool.false_eq_true, Bool.true_eq_false, eq_self, ↓reduceIte, Nat.reduceAdd, Nat.reduceEqDiff, Nat.reduceBEq, Nat.reduceLT, Nat.reduceLeDiff, Nat.reduceSub, Nat.reduceMul, Nat.reduceBNe, List.append_nil, Nat.zero_le, Nat.zero_add, Nat.zero_ne_one, Nat.one_ne_zero, false_implies, true_implies, not_false_eq_true, ne_eq, upd_e, updL_e, bI_zo, nI0z, nI1o, nI1z, nI0o, nI0q, nI1q, nm1_lt, nm1_ge, ax_aload_n tX0_asksSameAs_0, ax_getI tX0_asksSameAs_1, ax_aload_n tX0_asksSameAs_4, ax_getI tX0_asksSameAs_5, ax_icmp_ne tX0_asksSameAs_8, ax_aload_n tX0_asksSameAs_11, ax_getI tX0_asksSameAs_12, ax_aload_n tX0_asksSameAs_15, ax_getI tX0_asksSameAs_16, ax_icmp_ne tX0_asksSameAs_19, ax_aload_n tX0_asksSameAs_22, ax_getI tX0_asksSameAs_23, ax_aload_n tX0_asksSameAs_26, ax_getI tX0_asksSameAs_27, ax_icmp_ne tX0_asksSameAs_30, ax_iconst tX0_asksSameAs_33, ax_goto tX0_asksSameAs_34, ax_iconst tX0_asksSameAs_37, ax_istore_n tX0_asksSameAs_38, ax_iload_n tX0_asksSameAs_39, ax_if_eq tX0_asksSameAs_40, ax_aload_n tX0_asksSameAs_43, ax_aload_n tX0_asksSameAs_44, ax_callV1 tX0_asksSameAs_45, ax_if_eq tX0_asksSameAs_48, ax_aload_n tX0_asksSameAs_51, ax_aload_n tX0_asksSameAs_52, ax_callV1 tX0_asksSameAs_53, ax_if_eq tX0_asksSameAs_56, ax_iconst tX0_asksSameAs_59, ax_goto tX0_asksSameAs_60, ax_iconst tX0_asksSameAs_63, ax_iretZ tX0_asksSameAs_64, f_3]
  simp (disch := omega) only [z0, o1, nI_add, pk_mul, nI_ltI, nI_leI, nI_eq, nI_clamp, vpn, pk_sub, Nat.add_sub_cancel, bI_0, bI_1, eq_self, true_or, or_true, or_false, false_or, true_and, and_true, false_and, and_false, and_self, or_self, forall_const, not_true_eq_false, not_false_eq_true, false_implies, implies_true, true_implies, ↓reduceIte, if_true, if_false, Nat.not_lt_zero, Nat.zero_le, Nat.le_refl, Nat.lt_irrefl, ne_eq, reduceCtorEq, Bool.false_eq_true]
  refine ⟨fun c => ?_, fun c => ?_⟩
  · rw [c] at hq; exact hq
  · rw [Bool.not_eq_false] at c
    rw [c] at hq; exact hq
set_option maxHeartbeats 800000 in
theorem x_dueDay_loop {w0 d0 : Nat} (hq : Q (some (.int (nI (dueC 5000 w0 d0)))) h) : ∀ f w k, 4999 ≤ k + f → k ≤ 4999 → w ≤ 20 → dueC f w k = dueC 5000 w0 d0 → gG B mX0_dueDay (d + 2) 0 0 10 [(1, .int (nI k)), (2, .int (nI w))] [] h Q := by
  intro f
  induction f with
  | zero =>
    intro w k h1 h2 h3 e
    unfold dueC at e
    refine gAx (cut := []) okX0_dueDay 60 ?_
    simp only [axC_nil, axC_hit, axC_def, cutAt, lvLive, Option.isSome_none, Option.isSome_some, catS, lvGet, lvIns, lvSet1, lvSet2, gLit_0, gLit_1, lv_args, fv0, fv1, fv2, fv3, isI_s, isL_s, isRf_s, isRf_n, gtI_s, gtL_s, gtV_s, gFilter_nil, gFilter_cons, gL1, gL2, gL3, gL4, gL5, va_rf_s, va_rf_n, hK_sI, hK_sR, hK_sA, hK_sJ, hK_sO, hI_sI, hI_sR, hI_sA, hI_sJ, hI_sO, hR_sI, hR_sR, hR_sA, hR_sJ, hR_sO, hN_sI, hN_sR, hN_sA, hN_sJ, hN_sO, hA_sI, hA_sR, hA_sA, hA_sJ, hA_sO, hJ_sI, hJ_sR, hJ_sA, hJ_sJ, hJ_sO, hO_sI, hO_sR, hO_sA, hO_sJ, hO_sO, up3_eq, up2_eq, List.map_cons, List.map_nil, List.sum_cons, List.sum_nil, List.nil_append, List.cons_append, Option.toList_some, Option.toList_none, true_and, and_true, if_true, if_false, and_self, true_or, or_true, or_false, false_or, false_and, and_false, not_true_eq_false, not_false_eq_true, forall_const, reduceCtorEq, implies_true, List.contains_cons, List.contains_nil, Bool.or_false, Bool.false_or, Bool.or_true, Bool.true_or, Bool.and_true, Bool.true_and, Bool.and_false, Bool.false_and, Bool.not_true, Bool.not_false, BEq.rfl, Bool.false_eq_true, Bool.true_eq_false, eq_self, ↓reduceIte, Nat.reduceAdd, Nat.reduceEqDiff, Nat.reduceBEq, Nat.reduceLT, Nat.reduceLeDiff, Nat.reduceSub, Nat.reduceMul, Nat.reduceBNe, List.append_nil, Nat.zero_le, Nat.zero_add, Nat.zero_ne_one, Nat.one_ne_zero, false_implies, true_implies, not_false_eq_true, ne_eq, upd_e, updL_e, bI_zo, nI0z, nI1o, nI1z, nI0o, nI0q, nI1q, nm1_lt, nm1_ge, ax_aload_n tX0_dueDay_0, ax_getI tX0_dueDay_1, ax_istore_n tX0_dueDay_4, ax_aload_n tX0_dueDay_5, ax_getI tX0_dueDay_6, ax_istore_n tX0_dueDay_9, ax_iload_n tX0_dueDay_10, ax_bipush tX0_dueDay_11, ax_icmp_ge tX0_dueDay_13, ax_iload_n tX0_dueDay_16, ax_sipush tX0_dueDay_17, ax_icmp_ge tX0_dueDay_20, ax_iinc tX0_dueDay_23, ax_iload_n tX0_dueDay_26, ax_callS1 tX0_dueDay_27, ax_if_eq tX0_dueDay_30, ax_iinc tX0_dueDay_33, ax_goto tX0_dueDay_36, ax_iload_n tX0_dueDay_39, ax_iretI tX0_dueDay_40, f_5]
    simp (disch := omega) only [z0, o1, nI_add, pk_mul, nI_ltI, nI_leI, nI_eq, nI_clamp, vpn, pk_sub, Nat.add_sub_cancel, bI_0, bI_1, eq_self, true_or, or_true, or_false, false_or, true_and, and_true, false_and, and_false, and_self, or_self, forall_const, not_true_eq_false, not_false_eq_true, false_implies, implies_true, true_implies, ↓reduceIte, if_true, if_false, Nat.not_lt_zero, Nat.zero_le, Nat.le_refl, Nat.lt_irrefl, ne_eq, reduceCtorEq, Bool.false_eq_true]
    rw [e] 
    refine ⟨fun c => hq, fun c => ⟨fun c => hq, fun c => absurd c (by omega)⟩⟩
  | succ f ih =>
    intro w k h1 h2 h3 e
    unfold dueC at e
    refine gAx (cut := [(10, [1, 2])]) okX0_dueDay 60 ?_
    simp only [axC_nil, axC_hit, axC_def, cutAt, lvLive, Option.isSome_none, Option.isSome_some, catS, lvGet, lvIns, lvSet1, lvSet2, gLit_0, gLit_1, lv_args, fv0, fv1, fv2, fv3, isI_s, isL_s, isRf_s, isRf_n, gtI_s, gtL_s, gtV_s, gFilter_nil, gFilter_cons, gL1, gL2, gL3, gL4, gL5, va_rf_s, va_rf_n, hK_sI, hK_sR, hK_sA, hK_sJ, hK_sO, hI_sI, hI_sR, hI_sA, hI_sJ, hI_sO, hR_sI, hR_sR, hR_sA, hR_sJ, hR_sO, hN_sI, hN_sR, hN_sA, hN_sJ, hN_sO, hA_sI, hA_sR, hA_sA, hA_sJ, hA_sO, hJ_sI, hJ_sR, hJ_sA, hJ_sJ, hJ_sO, hO_sI, hO_sR, hO_sA, hO_sJ, hO_sO, up3_eq, up2_eq, List.map_cons, List.map_nil, List.sum_cons, List.sum_nil, List.nil_append, List.cons_append, Option.toList_some, Option.toList_none, true_and, and_true, if_true, if_false, and_self, true_or, or_true, or_false, false_or, false_and, and_false, not_true_eq_false, not_false_eq_true, forall_const, reduceCtorEq, implies_true, List.contains_cons, List.contains_nil, Bool.or_false, Bool.false_or, Bool.or_true, Bool.true_or, Bool.and_true, Bool.true_and, Bool.and_false, Bool.false_and, Bool.not_true, Bool.not_false, BEq.rfl, Bool.false_eq_true, Bool.true_eq_false, eq_self, ↓reduceIte, Nat.reduceAdd, Nat.reduceEqDiff, Nat.reduceBEq, Nat.reduceLT, Nat.reduceLeDiff, Nat.reduceSub, Nat.reduceMul, Nat.reduceBNe, List.append_nil, Nat.zero_le, Nat.zero_add, Nat.zero_ne_one, Nat.one_ne_zero, false_implies, true_implies, not_false_eq_true, ne_eq, upd_e, updL_e, bI_zo, nI0z, nI1o, nI1z, nI0o, nI0q, nI1q, nm1_lt, nm1_ge, ax_aload_n tX0_dueDay_0, ax_getI tX0_dueDay_1, ax_istore_n tX0_dueDay_4, ax_aload_n tX0_dueDay_5, ax_getI tX0_dueDay_6, ax_istore_n tX0_dueDay_9, ax_iload_n tX0_dueDay_10, ax_bipush tX0_dueDay_11, ax_icmp_ge tX0_dueDay_13, ax_iload_n tX0_dueDay_16, ax_sipush tX0_dueDay_17, ax_icmp_ge tX0_dueDay_20, ax_iinc tX0_dueDay_23, ax_iload_n tX0_dueDay_26, ax_callS1 tX0_dueDay_27, ax_if_eq tX0_dueDay_30, ax_iinc tX0_dueDay_33, ax_goto tX0_dueDay_36, ax_iload_n tX0_dueDay_39, ax_iretI tX0_dueDay_40, f_5]
    simp (disch := omega) only [z0, o1, nI_add, pk_mul, nI_ltI, nI_leI, nI_eq, nI_clamp, vpn, pk_sub, Nat.add_sub_cancel, bI_0, bI_1, eq_self, true_or, or_true, or_false, false_or, true_and, and_true, false_and, and_false, and_self, or_self, forall_const, not_true_eq_false, not_false_eq_true, false_implies, implies_true, true_implies, ↓reduceIte, if_true, if_false, Nat.not_lt_zero, Nat.zero_le, Nat.le_refl, Nat.lt_irrefl, ne_eq, reduceCtorEq, Bool.false_eq_true]
    refine ⟨fun c => ?_, fun c => ⟨fun c2 => ?_, fun c2 => ?_⟩⟩
    · rw [if_neg (by omega)] at e; rw [e]; exact hq
    · rw [if_neg (by omega)] at e; rw [e]; exact hq
    · rw [if_pos (by omega)] at e
      refine x_isWorkingDay (by omega) ?_
      have hw : wkN (k + 1) ≤ 1 := by unfold wkN; split <;> omega
      have K := ih (w + wkN (k + 1)) (k + 1) (by omega) (by omega) (by omega) e
      refine gAx (cut := [(10, [1, 2])]) okX0_dueDay 60 ?_
      simp only [axC_nil, axC_hit, axC_def, cutAt, lvLive, Option.isSome_none, Option.isSome_some, catS, lvGet, lvIns, lvSet1, lvSet2, gLit_0, gLit_1, lv_args, fv0, fv1, fv2, fv3, isI_s, isL_s, isRf_s, isRf_n, gtI_s, gtL_s, gtV_s, gFilter_nil, gFilter_cons, gL1, gL2, gL3, gL4, gL5, va_rf_s, va_rf_n, hK_sI, hK_sR, hK_sA, hK_sJ, hK_sO, hI_sI, hI_sR, hI_sA, hI_sJ, hI_sO, hR_sI, hR_sR, hR_sA, hR_sJ, hR_sO, hN_sI, hN_sR, hN_sA, hN_sJ, hN_sO, hA_sI, hA_sR, hA_sA, hA_sJ, hA_sO, hJ_sI, hJ_sR, hJ_sA, hJ_sJ, hJ_sO, hO_sI, hO_sR, hO_sA, hO_sJ, hO_sO, up3_eq, up2_eq, List.map_cons, List.map_nil, List.sum_cons, List.sum_nil, List.nil_append, List.cons_append, Option.toList_some, Option.toList_none, true_and, and_true, if_true, if_false, and_self, true_or, or_true, or_false, false_or, false_and, and_false, not_true_eq_false, not_false_eq_true, forall_const, reduceCtorEq, implies_true, List.contains_cons, List.contains_nil, Bool.or_false, Bool.false_or, Bool.or_true, Bool.true_or, Bool.and_true, Bool.true_and, Bool.and_false, Bool.false_and, Bool.not_true, Bool.not_false, BEq.rfl, Bool.false_eq_true, Bool.true_eq_false, eq_self, ↓reduceIte, Nat.reduceAdd, Nat.reduceEqDiff, Nat.reduceBEq, Nat.reduceLT, Nat.reduceLeDiff, Nat.reduceSub, Nat.reduceMul, Nat.reduceBNe, List.append_nil, Nat.zero_le, Nat.zero_add, Nat.zero_ne_one, Nat.one_ne_zero, false_implies, true_implies, not_false_eq_true, ne_eq, upd_e, updL_e, bI_zo, nI0z, nI1o, nI1z, nI0o, nI0q, nI1q, nm1_lt, nm1_ge, ax_aload_n tX0_dueDay_0, ax_getI tX0_dueDay_1, ax_istore_n tX0_dueDay_4, ax_aload_n tX0_dueDay_5, ax_getI tX0_dueDay_6, ax_istore_n tX0_dueDay_9, ax_iload_n tX0_dueDay_10, ax_bipush tX0_dueDay_11, ax_icmp_ge tX0_dueDay_13, ax_iload_n tX0_dueDay_16, ax_sipush tX0_dueDay_17, ax_icmp_ge tX0_dueDay_20, ax_iinc tX0_dueDay_23, ax_iload_n tX0_dueDay_26, ax_callS1 tX0_dueDay_27, ax_if_eq tX0_dueDay_30, ax_iinc tX0_dueDay_33, ax_goto tX0_dueDay_36, ax_iload_n tX0_dueDay_39, ax_iretI tX0_dueDay_40, f_5]
      simp (disch := omega) only [z0, o1, nI_add, pk_mul, nI_ltI, nI_leI, nI_eq, nI_clamp, vpn, pk_sub, Nat.add_sub_cancel, bI_0, bI_1, eq_self, true_or, or_true, or_false, false_or, true_and, and_true, false_and, and_false, and_self, or_self, forall_const, not_true_eq_false, not_false_eq_true, false_implies, implies_true, true_implies, ↓reduceIte, if_true, if_false, Nat.not_lt_zero, Nat.zero_le, Nat.le_refl, Nat.lt_irrefl, ne_eq, reduceCtorEq, Bool.false_eq_true]
      refine ⟨fun c => ?_, fun c => ?_⟩
      · rw [c] at K; exact K
      · rw [show wkN (k + 1) = 1 by omega] at K; exact K
set_option maxHeartbeats 800000 in
theorem x_dueDay (ha : ASK h z V W) (hq : Q (some (.int (nI (dueC 5000 (V 12) (V 11))))) h) : gFn B mX0_dueDay (d + 2) 0 0 [.ref (z 0)] h Q := by
  obtain ⟨⟨k0, r5, k5, n5⟩, ⟨v0, v1, v2, v3, v4, v6, v7, v9, v10, v11, v12⟩, b6, b10, b11, b12, bv, aw, bw⟩ := ha
  have Lp := x_dueDay_loop (B := B) (d := d) hq 5000 (V 12) (V 11) (by omega) b11 b12 rfl
  refine gStartX (cut := [(10, [1, 2])]) pnX0_dueDay okX0_dueDay (Nat.le_of_ble_eq_true rfl) 60 ?_
  simp only [axC_nil, axC_hit, axC_def, cutAt, lvLive, Option.isSome_none, Option.isSome_some, catS, lvGet, lvIns, lvSet1, lvSet2, gLit_0, gLit_1, lv_args, fv0, fv1, fv2, fv3, isI_s, isL_s, isRf_s, isRf_n, gtI_s, gtL_s, gtV_s, gFilter_nil, gFilter_cons, gL1, gL2, gL3, gL4, gL5, va_rf_s, va_rf_n, hK_sI, hK_sR, hK_sA, hK_sJ, hK_sO, hI_sI, hI_sR, hI_sA, hI_sJ, hI_sO, hR_sI, hR_sR, hR_sA, hR_sJ, hR_sO, hN_sI, hN_sR, hN_sA, hN_sJ, hN_sO, hA_sI, hA_sR, hA_sA, hA_sJ, hA_sO, hJ_sI, hJ_sR, hJ_sA, hJ_sJ, hJ_sO, hO_sI, hO_sR, hO_sA, hO_sJ, hO_sO, up3_eq, up2_eq, List.map_cons, List.map_nil, List.sum_cons, List.sum_nil, List.nil_append, List.cons_append, Option.toList_some, Option.toList_none, true_and, and_true, if_true, if_false, and_self, true_or, or_true, or_false, false_or, false_and, and_false, not_true_eq_false, not_false_eq_true, forall_const, reduceCtorEq, implies_true, List.contains_cons, List.contains_nil, Bool.or_false, Bool.false_or, Bool.or_true, Bool.true_or, Bool.and_true, Bool.true_and, Bool.and_false, Bool.false_and, Bool.not_true, Bool.not_false, BEq.rfl, Bool.false_eq_true, Bool.true_eq_false, eq_self, ↓reduceIte, Nat.reduceAdd, Nat.reduceEqDiff, Nat.reduceBEq, Nat.reduceLT, Nat.reduceLeDiff, Nat.reduceSub, Nat.reduceMul, Nat.reduceBNe, List.append_nil, Nat.zero_le, Nat.zero_add, Nat.zero_ne_one, Nat.one_ne_zero, false_implies, true_implies, not_false_eq_true, ne_eq, upd_e, updL_e, bI_zo, nI0z, nI1o, nI1z, nI0o, nI0q, nI1q, nm1_lt, nm1_ge, ax_aload_n tX0_dueDay_0, ax_getI tX0_dueDay_1, ax_istore_n tX0_dueDay_4, ax_aload_n tX0_dueDay_5, ax_getI tX0_dueDay_6, ax_istore_n tX0_dueDay_9, ax_iload_n tX0_dueDay_10, ax_bipush tX0_dueDay_11, ax_icmp_ge tX0_dueDay_13, ax_iload_n tX0_dueDay_16, ax_sipush tX0_dueDay_17, ax_icmp_ge tX0_dueDay_20, ax_iinc tX0_dueDay_23, ax_iload_n tX0_dueDay_26, ax_callS1 tX0_dueDay_27, ax_if_eq tX0_dueDay_30, ax_iinc tX0_dueDay_33, ax_goto tX0_dueDay_36, ax_iload_n tX0_dueDay_39, ax_iretI tX0_dueDay_40, f_5, k0, v11, v12]
  exact Lp
theorem dueC_le : ∀ f w d, d ≤ 4999 → dueC f w d ≤ 4999 ∧ d ≤ dueC f w d := by
  intro f
  induction f with
  | zero => intro w d h; unfold dueC; omega
  | succ f ih =>
    intro w d h
    unfold dueC
    split
    · have := ih (w + wkN (d + 1)) (d + 1) (by omega)
      omega
    · omega
set_option maxHeartbeats 800000 in
theorem x_isOverdueOn {t : Nat} (ha : ASK h z V W) (ht : t < 2 ^ 31) (hq : Q (some (.int (bI ((V 10 == 0) && decide (dueC 5000 (V 12) (V 11) < t))))) h) : gFn B mX0_isOverdueOn (d + 3) 0 0 [.ref (z 0), .int (nI t)] h Q := by
  have ha' := ha
  obtain ⟨⟨k0, r5, k5, n5⟩, ⟨v0, v1, v2, v3, v4, v6, v7, v9, v10, v11, v12⟩, b6, b10, b11, b12, bv, aw, bw⟩ := ha
  have hd := (dueC_le 5000 (V 12) (V 11) b11).1
  refine gStartX (cut := []) pnX0_isOverdueOn okX0_isOverdueOn (Nat.le_of_ble_eq_true rfl) 60 ?_
  simp only [axC_nil, axC_hit, axC_def, cutAt, lvLive, Option.isSome_none, Option.isSome_some, catS, lvGet, lvIns, lvSet1, lvSet2, gLit_0, gLit_1, lv_args, fv0, fv1, fv2, fv3, isI_s, isL_s, isRf_s, isRf_n, gtI_s, gtL_s, gtV_s, gFilter_nil, gFilter_cons, gL1, gL2, gL3, gL4, gL5, va_rf_s, va_rf_n, hK_sI, hK_sR, hK_sA, hK_sJ, hK_sO, hI_sI, hI_sR, hI_sA, hI_sJ, hI_sO, hR_sI, hR_sR, hR_sA, hR_sJ, hR_sO, hN_sI, hN_sR, hN_sA, hN_sJ, hN_sO, hA_sI, hA_sR, hA_sA, hA_sJ, hA_sO, hJ_sI, hJ_sR, hJ_sA, hJ_sJ, hJ_sO, hO_sI, hO_sR, hO_sA, hO_sJ, hO_sO, up3_eq, up2_eq, List.map_cons, List.map_nil, List.sum_cons, List.sum_nil, List.nil_append, List.cons_append, Option.toList_some, Option.toList_none, true_and, and_true, if_true, if_false, and_self, true_or, or_true, or_false, false_or, false_and, and_false, not_true_eq_false, not_false_eq_true, forall_const, reduceCtorEq, implies_true, List.contains_cons, List.contains_nil, Bool.or_false, Bool.false_or, Bool.or_true, Bool.true_or, Bool.and_true, Bool.true_and, Bool.and_false, Bool.false_and, Bool.not_true, Bool.not_false, BEq.rfl, Bool.false_eq_true, Bool.true_eq_false, eq_self, ↓reduceIte, Nat.reduceAdd, Nat.reduceEqDiff, Nat.reduceBEq, Nat.reduceLT, Nat.reduceLeDiff, Nat.reduceSub, Nat.reduceMul, Nat.reduceBNe, List.append_nil, Nat.zero_le, Nat.zero_add, Nat.zero_ne_one, Nat.one_ne_zero, false_implies, true_implies, not_false_eq_true, ne_eq, upd_e, updL_e, bI_zo, nI0z, nI1o, nI1z, nI0o, nI0q, nI1q, nm1_lt, nm1_ge, ax_aload_n tX0_isOverdueOn_0, ax_getZ tX0_isOverdueOn_1, ax_if_ne tX0_isOverdueOn_4, ax_iload_n tX0_isOverdueOn_7, ax_aload_n tX0_isOverdueOn_8, ax_callV0 tX0_isOverdueOn_9, ax_icmp_le tX0_isOverdueOn_12, ax_iconst tX0_isOverdueOn_15, ax_goto tX0_isOverdueOn_16, ax_iconst tX0_isOverdueOn_19, ax_iretZ tX0_isOverdueOn_20, f_8, k0, v10]
  simp (disch := omega) only [z0, o1, nI_add, pk_mul, nI_ltI, nI_leI, nI_eq, nI_clamp, vpn, pk_sub, Nat.add_sub_cancel, bI_0, bI_1, eq_self, true_or, or_true, or_false, false_or, true_and, and_true, false_and, and_false, and_self, or_self, forall_const, not_true_eq_false, not_false_eq_true, false_implies, implies_true, true_implies, ↓reduceIte, if_true, if_false, Nat.not_lt_zero, Nat.zero_le, Nat.le_refl, Nat.lt_irrefl, ne_eq, reduceCtorEq, Bool.false_eq_true]
  refine ⟨fun c => ?_, fun c => ?_⟩
  · rw [beq_false_of_ne c] at hq; exact hq
  rw [c, BEq.rfl, Bool.true_and] at hq
  refine x_dueDay ha' ?_
  refine gAx (cut := []) okX0_isOverdueOn 60 ?_
  simp only [axC_nil, axC_hit, axC_def, cutAt, lvLive, Option.isSome_none, Option.isSome_some, catS, lvGet, lvIns, lvSet1, lvSet2, gLit_0, gLit_1, lv_args, fv0, fv1, fv2, fv3, isI_s, isL_s, isRf_s, isRf_n, gtI_s, gtL_s, gtV_s, gFilter_nil, gFilter_cons, gL1, gL2, gL3, gL4, gL5, va_rf_s, va_rf_n, hK_sI, hK_sR, hK_sA, hK_sJ, hK_sO, hI_sI, hI_sR, hI_sA, hI_sJ, hI_sO, hR_sI, hR_sR, hR_sA, hR_sJ, hR_sO, hN_sI, hN_sR, hN_sA, hN_sJ, hN_sO, hA_sI, hA_sR, hA_sA, hA_sJ, hA_sO, hJ_sI, hJ_sR, hJ_sA, hJ_sJ, hJ_sO, hO_sI, hO_sR, hO_sA, hO_sJ, hO_sO, up3_eq, up2_eq, List.map_cons, List.map_nil, List.sum_cons, List.sum_nil, List.nil_append, List.cons_append, Option.toList_some, Option.toList_none, true_and, and_true, if_true, if_false, and_self, true_or, or_true, or_false, false_or, false_and, and_false, not_true_eq_false, not_false_eq_true, forall_const, reduceCtorEq, implies_true, List.contains_cons, List.contains_nil, Bool.or_false, Bool.false_or, Bool.or_true, Bool.true_or, Bool.and_true, Bool.true_and, Bool.and_false, Bool.false_and, Bool.not_true, Bool.not_false, BEq.rfl, Bool.false_eq_true, Bool.true_eq_false, eq_self, ↓reduceIte, Nat.reduceAdd, Nat.reduceEqDiff, Nat.reduceBEq, Nat.reduceLT, Nat.reduceLeDiff, Nat.reduceSub, Nat.reduceMul, Nat.reduceBNe, List.append_nil, Nat.zero_le, Nat.zero_add, Nat.zero_ne_one, Nat.one_ne_zero, false_implies, true_implies, not_false_eq_true, ne_eq, upd_e, updL_e, bI_zo, nI0z, nI1o, nI1z, nI0o, nI0q, nI1q, nm1_lt, nm1_ge, ax_aload_n tX0_isOverdueOn_0, ax_getZ tX0_isOverdueOn_1, ax_if_ne tX0_isOverdueOn_4, ax_iload_n tX0_isOverdueOn_7, ax_aload_n tX0_isOverdueOn_8, ax_callV0 tX0_isOverdueOn_9, ax_icmp_le tX0_isOverdueOn_12, ax_iconst tX0_isOverdueOn_15, ax_goto tX0_isOverdueOn_16, ax_iconst tX0_isOverdueOn_19, ax_iretZ tX0_isOverdueOn_20, f_8]
  simp (disch := omega) only [z0, o1, nI_add, pk_mul, nI_ltI, nI_leI, nI_eq, nI_clamp, vpn, pk_sub, Nat.add_sub_cancel, bI_0, bI_1, eq_self, true_or, or_true, or_false, false_or, true_and, and_true, false_and, and_false, and_self, or_self, forall_const, not_true_eq_false, not_false_eq_true, false_implies, implies_true, true_implies, ↓reduceIte, if_true, if_false, Nat.not_lt_zero, Nat.zero_le, Nat.le_refl, Nat.lt_irrefl, ne_eq, reduceCtorEq, Bool.false_eq_true]
  refine ⟨fun c => ?_, fun c => ?_⟩
  · rw [decide_eq_false (by omega)] at hq; exact hq
  · rw [decide_eq_true (by omega)] at hq; exact hq
theorem ASK.T {p : Nat × Nat} (ha : ASK h z V W) (h1 : p.1 ≤ 4999) (h2 : p.2 ≤ 20) : ASK (sI (sI h 1 10 (z 0) (nI p.1)) 1 11 (z 0) (nI p.2)) z (askV V p) W := by
  obtain ⟨⟨k0, r5, k5, n5⟩, ⟨v0, v1, v2, v3, v4, v6, v7, v9, v10, v11, v12⟩, b6, b10, b11, b12, bv, aw, bw⟩ := ha
  refine ⟨⟨k0, r5, k5, n5⟩, ?_, ?_, ?_, ?_, ?_, ?_, ?_, bw⟩
  · simp only [hI_sI, up3_eq, askV, va_up_eq, Nat.reduceLeDiff, Nat.reduceLT, Nat.reduceEqDiff, Nat.one_ne_zero, Nat.zero_ne_one, Nat.reduceSub, Nat.reduceAdd, eq_self, true_or, or_true, or_false, false_or, true_and, and_true, false_and, and_false, and_self, or_self, forall_const, not_true_eq_false, not_false_eq_true, false_implies, implies_true, true_implies, ↓reduceIte, if_true, if_false, Nat.not_lt_zero, Nat.zero_le, Nat.le_refl, Nat.lt_irrefl, ne_eq, reduceCtorEq, Bool.false_eq_true, false_and, true_and]
    exact ⟨v0, v1, v2, v3, v4, v6, v7, v9, v10⟩
  · simp [askV, va_up_eq]; exact b6
  · simp [askV, va_up_eq]; exact b10
  · simp [askV, va_up_eq]; exact h1
  · simp [askV, va_up_eq]; exact h2
  · intro k
    simp only [askV, va_up_eq]
    split
    · omega
    · split
      · omega
      · exact bv k
  · intro k hk
    simp [askV, va_up_eq] at hk
    exact aw k hk
theorem askV_id (V : Nat → Nat) : askV V (V 11, V 12) = V := by
  funext k
  simp only [askV, va_up_eq]
  split
  · rename_i e; rw [e]
  · split
    · rename_i e; rw [e]
    · rfl
theorem askV_2 (V : Nat → Nat) (p q : Nat × Nat) : askV (askV V p) q = askV V q := by
  funext k
  simp only [askV, va_up_eq]
  split
  · rfl
  · split <;> rfl
theorem cntT_le {now : Nat} (hn : now ≤ 4999) : ∀ f p, p.1 ≤ 4999 → p.2 ≤ 20 → (cntT now f p).1 ≤ 4999 ∧ (cntT now f p).2 ≤ 20 := by
  intro f
  induction f with
  | zero => intro p h1 h2; exact ⟨h1, h2⟩
  | succ f ih =>
    intro p h1 h2
    unfold cntT
    split
    · exact ih _ (by simp only; omega) (by simp only; unfold wkN; split <;> omega)
    · exact ⟨h1, h2⟩
set_option maxHeartbeats 800000 in
theorem x_countThrough_loop {h0 : gHp} {now : Nat} {R : Nat × Nat} (hnow : now ≤ 4999) (hq : ∀ h', FRM [(1, 10, z 0), (1, 11, z 0)] [] h0 h' → ASK h' z (askV V (R)) W → Q none h') : ∀ f p h, now ≤ p.1 + 1 + f → p.1 ≤ 4999 → p.2 ≤ 20 → FRM [(1, 10, z 0), (1, 11, z 0)] [] h0 h → ASK h z (askV V p) W → cntT now f p = R → gG B mX0_countThrough (d + 2) 0 0 7 [(0, .ref (z 0)), (1, .int (sg now)), (2, .int (nI (p.1 + 1)))] [] h Q := by
  intro f
  induction f with
  | zero =>
    intro p h h1 h2 h3 hf ha e
    unfold cntT at e
    rw [← e] at hq
    have := hq h hf ha
    obtain ⟨⟨k0, r5, k5, n5⟩, ⟨v0, v1, v2, v3, v4, v6, v7, v9, v10, v11, v12⟩, b6, b10, b11, b12, bv, aw, bw⟩ := ha
    refine gAx (cut := []) okX0_countThrough 60 ?_
    simp only [axC_nil, axC_hit, axC_def, cutAt, lvLive, Option.isSome_none, Option.isSome_some, catS, lvGet, lvIns, lvSet1, lvSet2, gLit_0, gLit_1, lv_args, fv0, fv1, fv2, fv3, isI_s, isL_s, isRf_s, isRf_n, gtI_s, gtL_s, gtV_s, gFilter_nil, gFilter_cons, gL1, gL2, gL3, gL4, gL5, va_rf_s, va_rf_n, hK_sI, hK_sR, hK_sA, hK_sJ, hK_sO, hI_sI, hI_sR, hI_sA, hI_sJ, hI_sO, hR_sI, hR_sR, hR_sA, hR_sJ, hR_sO, hN_sI, hN_sR, hN_sA, hN_sJ, hN_sO, hA_sI, hA_sR, hA_sA, hA_sJ, hA_sO, hJ_sI, hJ_sR, hJ_sA, hJ_sJ, hJ_sO, hO_sI, hO_sR, hO_sA, hO_sJ, hO_sO, up3_eq, up2_eq, List.map_cons, List.map_nil, List.sum_cons, List.sum_nil, List.nil_append, List.cons_append, Option.toList_some, Option.toList_none, true_and, and_true, if_true, if_false, and_self, true_or, or_true, or_false, false_or, false_and, and_false, not_true_eq_false, not_false_eq_true, forall_const, reduceCtorEq, implies_true, List.contains_cons, List.contains_nil, Bool.or_false, Bool.false_or, Bool.or_true, Bool.true_or, Bool.and_true, Bool.true_and, Bool.and_false, Bool.false_and, Bool.not_true, Bool.not_false, BEq.rfl, Bool.false_eq_true, Bool.true_eq_false, eq_self, ↓reduceIte, Nat.reduceAdd, Nat.reduceEqDiff, Nat.reduceBEq, Nat.reduceLT, Nat.reduceLeDiff, Nat.reduceSub, Nat.reduceMul, Nat.reduceBNe, List.append_nil, Nat.zero_le, Nat.zero_add, Nat.zero_ne_one, Nat.one_ne_zero, false_implies, true_implies, not_false_eq_true, ne_eq, upd_e, updL_e, bI_zo, nI0z, nI1o, nI1z, nI0o, nI0q, nI1q, nm1_lt, nm1_ge, ax_aload_n tX0_countThrough_0, ax_getI tX0_countThrough_1, ax_iconst tX0_countThrough_4, ax_iadd tX0_countThrough_5, ax_istore_n tX0_countThrough_6, ax_iload_n tX0_countThrough_7, ax_iload_n tX0_countThrough_8, ax_icmp_gt tX0_countThrough_9, ax_aload_n tX0_countThrough_12, ax_getI tX0_countThrough_13, ax_bipush tX0_countThrough_16, ax_icmp_ge tX0_countThrough_18, ax_aload_n tX0_countThrough_21, ax_iload_n tX0_countThrough_22, ax_putI tX0_countThrough_23, ax_iload_n tX0_countThrough_26, ax_callS1 tX0_countThrough_27, ax_if_eq tX0_countThrough_30, ax_aload_n tX0_countThrough_33, ax_dup tX0_countThrough_34, ax_getI tX0_countThrough_35, ax_iconst tX0_countThrough_38, ax_iadd tX0_countThrough_39, ax_putI tX0_countThrough_40, ax_iinc tX0_countThrough_43, ax_goto tX0_countThrough_46, ax_vret tX0_countThrough_49, f_5, k0, v12, sg_gt (show now < 2 ^ 31 by omega) (show p.1 + 1 < 2 ^ 31 by omega)]
    refine ⟨fun _ => this, fun c => absurd c (by omega)⟩
  | succ f ih =>
    intro p h h1 h2 h3 hf ha e
    have ha' := ha
    obtain ⟨⟨k0, r5, k5, n5⟩, ⟨v0, v1, v2, v3, v4, v6, v7, v9, v10, v11, v12⟩, b6, b10, b11, b12, bv, aw, bw⟩ := ha
    have v12' : hI h 1 11 (z 0) = nI p.2 := by rw [v12]; simp [askV, va_up_eq]
    unfold cntT at e
    refine gAx (cut := [(7, [0, 1, 2])]) okX0_countThrough 60 ?_
    simp only [axC_nil, axC_hit, axC_def, cutAt, lvLive, Option.isSome_none, Option.isSome_some, catS, lvGet, lvIns, lvSet1, lvSet2, gLit_0, gLit_1, lv_args, fv0, fv1, fv2, fv3, isI_s, isL_s, isRf_s, isRf_n, gtI_s, gtL_s, gtV_s, gFilter_nil, gFilter_cons, gL1, gL2, gL3, gL4, gL5, va_rf_s, va_rf_n, hK_sI, hK_sR, hK_sA, hK_sJ, hK_sO, hI_sI, hI_sR, hI_sA, hI_sJ, hI_sO, hR_sI, hR_sR, hR_sA, hR_sJ, hR_sO, hN_sI, hN_sR, hN_sA, hN_sJ, hN_sO, hA_sI, hA_sR, hA_sA, hA_sJ, hA_sO, hJ_sI, hJ_sR, hJ_sA, hJ_sJ, hJ_sO, hO_sI, hO_sR, hO_sA, hO_sJ, hO_sO, up3_eq, up2_eq, List.map_cons, List.map_nil, List.sum_cons, List.sum_nil, List.nil_append, List.cons_append, Option.toList_some, Option.toList_none, true_and, and_true, if_true, if_false, and_self, true_or, or_true, or_false, false_or, false_and, and_false, not_true_eq_false, not_false_eq_true, forall_const, reduceCtorEq, implies_true, List.contains_cons, List.contains_nil, Bool.or_false, Bool.false_or, Bool.or_true, Bool.true_or, Bool.and_true, Bool.true_and, Bool.and_false, Bool.false_and, Bool.not_true, Bool.not_false, BEq.rfl, Bool.false_eq_true, Bool.true_eq_false, eq_self, ↓reduceIte, Nat.reduceAdd, Nat.reduceEqDiff, Nat.reduceBEq, Nat.reduceLT, Nat.reduceLeDiff, Nat.reduceSub, Nat.reduceMul, Nat.reduceBNe, List.append_nil, Nat.zero_le, Nat.zero_add, Nat.zero_ne_one, Nat.one_ne_zero, false_implies, true_implies, not_false_eq_true, ne_eq, upd_e, updL_e, bI_zo, nI0z, nI1o, nI1z, nI0o, nI0q, nI1q, nm1_lt, nm1_ge, ax_aload_n tX0_countThrough_0, ax_getI tX0_countThrough_1, ax_iconst tX0_countThrough_4, ax_iadd tX0_countThrough_5, ax_istore_n tX0_countThrough_6, ax_iload_n tX0_countThrough_7, ax_iload_n tX0_countThrough_8, ax_icmp_gt tX0_countThrough_9, ax_aload_n tX0_countThrough_12, ax_getI tX0_countThrough_13, ax_bipush tX0_countThrough_16, ax_icmp_ge tX0_countThrough_18, ax_aload_n tX0_countThrough_21, ax_iload_n tX0_countThrough_22, ax_putI tX0_countThrough_23, ax_iload_n tX0_countThrough_26, ax_callS1 tX0_countThrough_27, ax_if_eq tX0_countThrough_30, ax_aload_n tX0_countThrough_33, ax_dup tX0_countThrough_34, ax_getI tX0_countThrough_35, ax_iconst tX0_countThrough_38, ax_iadd tX0_countThrough_39, ax_putI tX0_countThrough_40, ax_iinc tX0_countThrough_43, ax_goto tX0_countThrough_46, ax_vret tX0_countThrough_49, f_5, k0, v12', sg_gt (show now < 2 ^ 31 by omega) (show p.1 + 1 < 2 ^ 31 by omega)]
    simp (disch := omega) only [z0, o1, nI_add, pk_mul, nI_ltI, nI_leI, nI_eq, nI_clamp, vpn, pk_sub, Nat.add_sub_cancel, bI_0, bI_1, eq_self, true_or, or_true, or_false, false_or, true_and, and_true, false_and, and_false, and_self, or_self, forall_const, not_true_eq_false, not_false_eq_true, false_implies, implies_true, true_implies, ↓reduceIte, if_true, if_false, Nat.not_lt_zero, Nat.zero_le, Nat.le_refl, Nat.lt_irrefl, ne_eq, reduceCtorEq, Bool.false_eq_true]
    refine ⟨fun c => ?_, fun c => ⟨fun c2 => ?_, fun c2 => ?_⟩⟩
    · rw [if_neg (by omega)] at e
      rw [← e] at hq
      exact hq h hf ha'
    · rw [if_neg (by omega)] at e
      rw [← e] at hq
      exact hq h hf ha'
    · rw [if_pos (by omega)] at e
      refine x_isWorkingDay (by omega) ?_
      have hw : wkN (p.1 + 1) ≤ 1 := by unfold wkN; split <;> omega
      have K := fun h => ih (p.1 + 1, p.2 + wkN (p.1 + 1)) h (by simp only; omega) (by simp only; omega) (by simp only; omega)
      simp only at K
      have T := ASK.T (p := (p.1 + 1, p.2 + wkN (p.1 + 1))) ha' (by simp only; omega) (by simp only; omega)
      rw [askV_2] at T
      refine gAx (cut := [(7, [0, 1, 2])]) okX0_countThrough 60 ?_
      simp only [axC_nil, axC_hit, axC_def, cutAt, lvLive, Option.isSome_none, Option.isSome_some, catS, lvGet, lvIns, lvSet1, lvSet2, gLit_0, gLit_1, lv_args, fv0, fv1, fv2, fv3, isI_s, isL_s, isRf_s, isRf_n, gtI_s, gtL_s, gtV_s, gFilter_nil, gFilter_cons, gL1, gL2, gL3, gL4, gL5, va_rf_s, va_rf_n, hK_sI, hK_sR, hK_sA, hK_sJ, hK_sO, hI_sI, hI_sR, hI_sA, hI_sJ, hI_sO, hR_sI, hR_sR, hR_sA, hR_sJ, hR_sO, hN_sI, hN_sR, hN_sA, hN_sJ, hN_sO, hA_sI, hA_sR, hA_sA, hA_sJ, hA_sO, hJ_sI, hJ_sR, hJ_sA, hJ_sJ, hJ_sO, hO_sI, hO_sR, hO_sA, hO_sJ, hO_sO, up3_eq, up2_eq, List.map_cons, List.map_nil, List.sum_cons, List.sum_nil, List.nil_append, List.cons_append, Option.toList_some, Option.toList_none, true_and, and_true, if_true, if_false, and_self, true_or, or_true, or_false, false_or, false_and, and_false, not_true_eq_false, not_false_eq_true, forall_const, reduceCtorEq, implies_true, List.contains_cons, List.contains_nil, Bool.or_false, Bool.false_or, Bool.or_true, Bool.true_or, Bool.and_true, Bool.true_and, Bool.and_false, Bool.false_and, Bool.not_true, Bool.not_false, BEq.rfl, Bool.false_eq_true, Bool.true_eq_false, eq_self, ↓reduceIte, Nat.reduceAdd, Nat.reduceEqDiff, Nat.reduceBEq, Nat.reduceLT, Nat.reduceLeDiff, Nat.reduceSub, Nat.reduceMul, Nat.reduceBNe, List.append_nil, Nat.zero_le, Nat.zero_add, Nat.zero_ne_one, Nat.one_ne_zero, false_implies, true_implies, not_false_eq_true, ne_eq, upd_e, updL_e, bI_zo, nI0z, nI1o, nI1z, nI0o, nI0q, nI1q, nm1_lt, nm1_ge, ax_aload_n tX0_countThrough_0, ax_getI tX0_countThrough_1, ax_iconst tX0_countThrough_4, ax_iadd tX0_countThrough_5, ax_istore_n tX0_countThrough_6, ax_iload_n tX0_countThrough_7, ax_iload_n tX0_countThrough_8, ax_icmp_gt tX0_countThrough_9, ax_aload_n tX0_countThrough_12, ax_getI tX0_countThrough_13, ax_bipush tX0_countThrough_16, ax_icmp_ge tX0_countThrough_18, ax_aload_n tX0_countThrough_21, ax_iload_n tX0_countThrough_22, ax_putI tX0_countThrough_23, ax_iload_n tX0_countThrough_26, ax_callS1 tX0_countThrough_27, ax_if_eq tX0_countThrough_30, ax_aload_n tX0_countThrough_33, ax_dup tX0_countThrough_34, ax_getI tX0_countThrough_35, ax_iconst tX0_countThrough_38, ax_iadd tX0_countThrough_39, ax_putI tX0_countThrough_40, ax_iinc tX0_countThrough_43, ax_goto tX0_countThrough_46, ax_vret tX0_countThrough_49, f_5, k0, v12']
      simp (disch := omega) only [z0, o1, nI_add, pk_mul, nI_ltI, nI_leI, nI_eq, nI_clamp, vpn, pk_sub, Nat.add_sub_cancel, bI_0, bI_1, eq_self, true_or, or_true, or_false, false_or, true_and, and_true, false_and, and_false, and_self, or_self, forall_const, not_true_eq_false, not_false_eq_true, false_implies, implies_true, true_implies, ↓reduceIte, if_true, if_false, Nat.not_lt_zero, Nat.zero_le, Nat.le_refl, Nat.lt_irrefl, ne_eq, reduceCtorEq, Bool.false_eq_true]
      refine ⟨fun c => ?_, fun c => ?_⟩
      · refine K _ (hf.sI (by simp)) ?_ e
        rw [c] at T ⊢
        simp only [Nat.add_zero] at T ⊢
        have e2 : sI (sI h 1 10 (z 0) (nI (p.1 + 1))) 1 11 (z 0) (nI p.2) = sI h 1 10 (z 0) (nI (p.1 + 1)) := sI_id (by rw [hI_sI, up3_eq, if_neg (by omega)]; exact v12')
        rw [e2] at T
        exact T
      · have e1 : wkN (p.1 + 1) = 1 := by omega
        rw [e1] at T K e
        exact K _ ((hf.sI (by simp)).sI (by simp)) T e
set_option maxHeartbeats 800000 in
theorem x_countThrough {now : Nat} (ha : ASK h z V W) (hnow : now ≤ 4999) (hq : ∀ h', FRM [(1, 10, z 0), (1, 11, z 0)] [] h h' → ASK h' z (askV V (cntT now 5000 (V 11, V 12))) W → Q none h') : gFn B mX0_countThrough (d + 2) 0 0 [.ref (z 0), .int (sg now)] h Q := by
  have Lp := x_countThrough_loop (B := B) (d := d) (h0 := h) hnow hq 5000 (V 11, V 12) h (by simp only; omega) ha.2.2.2.2.1 ha.2.2.2.2.2.1 (FRM.rf h) (by rw [askV_id]; exact ha) rfl
  obtain ⟨⟨k0, r5, k5, n5⟩, ⟨v0, v1, v2, v3, v4, v6, v7, v9, v10, v11, v12⟩, b6, b10, b11, b12, bv, aw, bw⟩ := ha
  refine gStartX (cut := [(7, [0, 1, 2])]) pnX0_countThrough okX0_countThrough (Nat.le_of_ble_eq_true rfl) 60 ?_
  simp only [axC_nil, axC_hit, axC_def, cutAt, lvLive, Option.isSome_none, Option.isSome_some, catS, lvGet, lvIns, lvSet1, lvSet2, gLit_0, gLit_1, lv_args, fv0, fv1, fv2, fv3, isI_s, isL_s, isRf_s, isRf_n, gtI_s, gtL_s, gtV_s, gFilter_nil, gFilter_cons, gL1, gL2, gL3, gL4, gL5, va_rf_s, va_rf_n, hK_sI, hK_sR, hK_sA, hK_sJ, hK_sO, hI_sI, hI_sR, hI_sA, hI_sJ, hI_sO, hR_sI, hR_sR, hR_sA, hR_sJ, hR_sO, hN_sI, hN_sR, hN_sA, hN_sJ, hN_sO, hA_sI, hA_sR, hA_sA, hA_sJ, hA_sO, hJ_sI, hJ_sR, hJ_sA, hJ_sJ, hJ_sO, hO_sI, hO_sR, hO_sA, hO_sJ, hO_sO, up3_eq, up2_eq, List.map_cons, List.map_nil, List.sum_cons, List.sum_nil, List.nil_append, List.cons_append, Option.toList_some, Option.toList_none, true_and, and_true, if_true, if_false, and_self, true_or, or_true, or_false, false_or, false_and, and_false, not_true_eq_false, not_false_eq_true, forall_const, reduceCtorEq, implies_true, List.contains_cons, List.contains_nil, Bool.or_false, Bool.false_or, Bool.or_true, Bool.true_or, Bool.and_true, Bool.true_and, Bool.and_false, Bool.false_and, Bool.not_true, Bool.not_false, BEq.rfl, Bool.false_eq_true, Bool.true_eq_false, eq_self, ↓reduceIte, Nat.reduceAdd, Nat.reduceEqDiff, Nat.reduceBEq, Nat.reduceLT, Nat.reduceLeDiff, Nat.reduceSub, Nat.reduceMul, Nat.reduceBNe, List.append_nil, Nat.zero_le, Nat.zero_add, Nat.zero_ne_one, Nat.one_ne_zero, false_implies, true_implies, not_false_eq_true, ne_eq, upd_e, updL_e, bI_zo, nI0z, nI1o, nI1z, nI0o, nI0q, nI1q, nm1_lt, nm1_ge, ax_aload_n tX0_countThrough_0, ax_getI tX0_countThrough_1, ax_iconst tX0_countThrough_4, ax_iadd tX0_countThrough_5, ax_istore_n tX0_countThrough_6, ax_iload_n tX0_countThrough_7, ax_iload_n tX0_countThrough_8, ax_icmp_gt tX0_countThrough_9, ax_aload_n tX0_countThrough_12, ax_getI tX0_countThrough_13, ax_bipush tX0_countThrough_16, ax_icmp_ge tX0_countThrough_18, ax_aload_n tX0_countThrough_21, ax_iload_n tX0_countThrough_22, ax_putI tX0_countThrough_23, ax_iload_n tX0_countThrough_26, ax_callS1 tX0_countThrough_27, ax_if_eq tX0_countThrough_30, ax_aload_n tX0_countThrough_33, ax_dup tX0_countThrough_34, ax_getI tX0_countThrough_35, ax_iconst tX0_countThrough_38, ax_iadd tX0_countThrough_39, ax_putI tX0_countThrough_40, ax_iinc tX0_countThrough_43, ax_goto tX0_countThrough_46, ax_vret tX0_countThrough_49, f_5, k0, v11]
  simp (disch := omega) only [z0, o1, nI_add, pk_mul, nI_ltI, nI_leI, nI_eq, nI_clamp, vpn, pk_sub, Nat.add_sub_cancel, bI_0, bI_1, eq_self, true_or, or_true, or_false, false_or, true_and, and_true, false_and, and_false, and_self, or_self, forall_const, not_true_eq_false, not_false_eq_true, false_implies, implies_true, true_implies, ↓reduceIte, if_true, if_false, Nat.not_lt_zero, Nat.zero_le, Nat.le_refl, Nat.lt_irrefl, ne_eq, reduceCtorEq, Bool.false_eq_true]
  exact Lp
set_option maxHeartbeats 800000 in
theorem x_skipThrough {now : Nat} (ha : ASK h z V W) (hnow : now ≤ 4999) (hq : ∀ h', FRM [(1, 10, z 0), (1, 11, z 0)] [] h h' → ASK h' z (askV V (skpT now (V 11, V 12))) W → Q none h') : gFn B mX0_skipThrough (d + 1) 0 0 [.ref (z 0), .int (sg now)] h Q := by
  have ha' := ha
  obtain ⟨⟨k0, r5, k5, n5⟩, ⟨v0, v1, v2, v3, v4, v6, v7, v9, v10, v11, v12⟩, b6, b10, b11, b12, bv, aw, bw⟩ := ha
  have same : ¬ (V 12 < 20 ∧ V 11 + 1 < now) → Q none h := fun c => by
    unfold skpT at hq
    simp only [if_neg c] at hq
    exact hq h (FRM.rf h) (by rw [askV_id]; exact ha')
  refine gStartX (cut := []) pnX0_skipThrough okX0_skipThrough (Nat.le_of_ble_eq_true rfl) 60 ?_
  simp only [axC_nil, axC_hit, axC_def, cutAt, lvLive, Option.isSome_none, Option.isSome_some, catS, lvGet, lvIns, lvSet1, lvSet2, gLit_0, gLit_1, lv_args, fv0, fv1, fv2, fv3, isI_s, isL_s, isRf_s, isRf_n, gtI_s, gtL_s, gtV_s, gFilter_nil, gFilter_cons, gL1, gL2, gL3, gL4, gL5, va_rf_s, va_rf_n, hK_sI, hK_sR, hK_sA, hK_sJ, hK_sO, hI_sI, hI_sR, hI_sA, hI_sJ, hI_sO, hR_sI, hR_sR, hR_sA, hR_sJ, hR_sO, hN_sI, hN_sR, hN_sA, hN_sJ, hN_sO, hA_sI, hA_sR, hA_sA, hA_sJ, hA_sO, hJ_sI, hJ_sR, hJ_sA, hJ_sJ, hJ_sO, hO_sI, hO_sR, hO_sA, hO_sJ, hO_sO, up3_eq, up2_eq, List.map_cons, List.map_nil, List.sum_cons, List.sum_nil, List.nil_append, List.cons_append, Option.toList_some, Option.toList_none, true_and, and_true, if_true, if_false, and_self, true_or, or_true, or_false, false_or, false_and, and_false, not_true_eq_false, not_false_eq_true, forall_const, reduceCtorEq, implies_true, List.contains_cons, List.contains_nil, Bool.or_false, Bool.false_or, Bool.or_true, Bool.true_or, Bool.and_true, Bool.true_and, Bool.and_false, Bool.false_and, Bool.not_true, Bool.not_false, BEq.rfl, Bool.false_eq_true, Bool.true_eq_false, eq_self, ↓reduceIte, Nat.reduceAdd, Nat.reduceEqDiff, Nat.reduceBEq, Nat.reduceLT, Nat.reduceLeDiff, Nat.reduceSub, Nat.reduceMul, Nat.reduceBNe, List.append_nil, Nat.zero_le, Nat.zero_add, Nat.zero_ne_one, Nat.one_ne_zero, false_implies, true_implies, not_false_eq_true, ne_eq, upd_e, updL_e, bI_zo, nI0z, nI1o, nI1z, nI0o, nI0q, nI1q, nm1_lt, nm1_ge, ax_aload_n tX0_skipThrough_0, ax_getI tX0_skipThrough_1, ax_bipush tX0_skipThrough_4, ax_icmp_ge tX0_skipThrough_6, ax_iload_n tX0_skipThrough_9, ax_aload_n tX0_skipThrough_10, ax_getI tX0_skipThrough_11, ax_icmp_le tX0_skipThrough_14, ax_aload_n tX0_skipThrough_17, ax_iload_n tX0_skipThrough_18, ax_putI tX0_skipThrough_19, ax_vret tX0_skipThrough_22, k0, v11, v12, sg_le (show now < 2 ^ 31 by omega) (show V 11 < 2 ^ 31 by omega)]
  simp (disch := omega) only [z0, o1, nI_add, pk_mul, nI_ltI, nI_leI, nI_eq, nI_clamp, vpn, pk_sub, Nat.add_sub_cancel, bI_0, bI_1, eq_self, true_or, or_true, or_false, false_or, true_and, and_true, false_and, and_false, and_self, or_self, forall_const, not_true_eq_false, not_false_eq_true, false_implies, implies_true, true_implies, ↓reduceIte, if_true, if_false, Nat.not_lt_zero, Nat.zero_le, Nat.le_refl, Nat.lt_irrefl, ne_eq, reduceCtorEq, Bool.false_eq_true]
  refine ⟨fun c => same (by omega), fun c => ⟨fun c2 => same (by omega), fun c2 => ?_⟩⟩
  obtain ⟨n1, e⟩ : ∃ n1, now = n1 + 1 := ⟨now - 1, by omega⟩
  subst e
  rw [sg_s]
  have T := ASK.T (p := (n1, V 12)) ha' (by simp only; omega) (by simp only; omega)
  simp only at T
  have e2 : sI (sI h 1 10 (z 0) (nI n1)) 1 11 (z 0) (nI (V 12)) = sI h 1 10 (z 0) (nI n1) := sI_id (by rw [hI_sI, up3_eq, if_neg (by omega)]; exact v12)
  rw [e2] at T
  refine hq _ ((FRM.rf h).sI (by simp)) ?_
  unfold skpT
  rw [if_pos (by simp only; omega)]
  simp only [Nat.add_sub_cancel]
  exact T
set_option maxHeartbeats 800000 in
theorem x_addWord {w : Nat} (ha : ASK h z V W) (h6 : V 6 < 4) (hw : w < 2 ^ 31) (hq : ∀ h', FRM [(1, 6, z 0)] [(12, z 5)] h h' → ASK h' z (va_up V 6 (V 6 + 1)) (va_up W (V 6) w) → Q none h') : gFn B mX0_addWord (d + 1) 0 0 [.ref (z 0), .int (nI w)] h Q := by
  obtain ⟨⟨k0, r5, k5, n5⟩, ⟨v0, v1, v2, v3, v4, v6, v7, v9, v10, v11, v12⟩, b6, b10, b11, b12, bv, aw, bw⟩ := ha
  refine gStartX (cut := []) pnX0_addWord okX0_addWord (Nat.le_of_ble_eq_true rfl) 60 ?_
  simp only [axC_nil, axC_hit, axC_def, cutAt, lvLive, Option.isSome_none, Option.isSome_some, catS, lvGet, lvIns, lvSet1, lvSet2, gLit_0, gLit_1, lv_args, fv0, fv1, fv2, fv3, isI_s, isL_s, isRf_s, isRf_n, gtI_s, gtL_s, gtV_s, gFilter_nil, gFilter_cons, gL1, gL2, gL3, gL4, gL5, va_rf_s, va_rf_n, hK_sI, hK_sR, hK_sA, hK_sJ, hK_sO, hI_sI, hI_sR, hI_sA, hI_sJ, hI_sO, hR_sI, hR_sR, hR_sA, hR_sJ, hR_sO, hN_sI, hN_sR, hN_sA, hN_sJ, hN_sO, hA_sI, hA_sR, hA_sA, hA_sJ, hA_sO, hJ_sI, hJ_sR, hJ_sA, hJ_sJ, hJ_sO, hO_sI, hO_sR, hO_sA, hO_sJ, hO_sO, up3_eq, up2_eq, List.map_cons, List.map_nil, List.sum_cons, List.sum_nil, List.nil_append, List.cons_append, Option.toList_some, Option.toList_none, true_and, and_true, if_true, if_false, and_self, true_or, or_true, or_false, false_or, false_and, and_false, not_true_eq_false, not_false_eq_true, forall_const, reduceCtorEq, implies_true, List.contains_cons, List.contains_nil, Bool.or_false, Bool.false_or, Bool.or_true, Bool.true_or, Bool.and_true, Bool.true_and, Bool.and_false, Bool.false_and, Bool.not_true, Bool.not_false, BEq.rfl, Bool.false_eq_true, Bool.true_eq_false, eq_self, ↓reduceIte, Nat.reduceAdd, Nat.reduceEqDiff, Nat.reduceBEq, Nat.reduceLT, Nat.reduceLeDiff, Nat.reduceSub, Nat.reduceMul, Nat.reduceBNe, List.append_nil, Nat.zero_le, Nat.zero_add, Nat.zero_ne_one, Nat.one_ne_zero, false_implies, true_implies, not_false_eq_true, ne_eq, upd_e, updL_e, bI_zo, nI0z, nI1o, nI1z, nI0o, nI0q, nI1q, nm1_lt, nm1_ge, ax_aload_n tX0_addWord_0, ax_getI tX0_addWord_1, ax_iconst tX0_addWord_4, ax_icmp_ge tX0_addWord_5, ax_aload_n tX0_addWord_8, ax_getR tX0_addWord_9, ax_aload_n tX0_addWord_12, ax_getI tX0_addWord_13, ax_iload_n tX0_addWord_16, ax_iastore tX0_addWord_17, ax_aload_n tX0_addWord_18, ax_dup tX0_addWord_19, ax_getI tX0_addWord_20, ax_iconst tX0_addWord_23, ax_iadd tX0_addWord_24, ax_putI tX0_addWord_25, ax_vret tX0_addWord_28, k0, r5, v6, k5, n5]
  simp (disch := omega) only [z0, o1, nI_add, pk_mul, nI_ltI, nI_leI, nI_eq, nI_clamp, vpn, pk_sub, Nat.add_sub_cancel, bI_0, bI_1, eq_self, true_or, or_true, or_false, false_or, true_and, and_true, false_and, and_false, and_self, or_self, forall_const, not_true_eq_false, not_false_eq_true, false_implies, implies_true, true_implies, ↓reduceIte, if_true, if_false, Nat.not_lt_zero, Nat.zero_le, Nat.le_refl, Nat.lt_irrefl, ne_eq, reduceCtorEq, Bool.false_eq_true]
  refine ⟨fun c => absurd c (by omega), fun c => ⟨by omega, hq _ (((FRM.rf h).sA (by simp)).sI (by simp)) ?_⟩⟩
  refine ⟨⟨k0, r5, k5, n5⟩, ?_, ?_, ?_, ?_, ?_, ?_, ?_, ?_⟩
  · simp only [hI_sI, up3_eq, va_up_eq, hI_sA, Nat.reduceLeDiff, Nat.reduceLT, Nat.reduceEqDiff, Nat.one_ne_zero, Nat.zero_ne_one, Nat.reduceSub, Nat.reduceAdd, eq_self, true_or, or_true, or_false, false_or, true_and, and_true, false_and, and_false, and_self, or_self, forall_const, not_true_eq_false, not_false_eq_true, false_implies, implies_true, true_implies, ↓reduceIte, if_true, if_false, Nat.not_lt_zero, Nat.zero_le, Nat.le_refl, Nat.lt_irrefl, ne_eq, reduceCtorEq, Bool.false_eq_true, false_and, true_and]
    exact ⟨v0, v1, v2, v3, v4, v7, v9, v10, v11, v12⟩
  · simp [va_up_eq]; omega
  · simp [va_up_eq]; exact b10
  · simp [va_up_eq]; exact b11
  · simp [va_up_eq]; exact b12
  · intro k
    simp only [va_up_eq]
    split
    · omega
    · exact bv k
  · intro k hk
    simp [va_up_eq] at hk
    simp only [hA_sI, hA_sA, up2_eq, upd_e, va_up_eq, and_self, if_true]
    split
    · rfl
    · exact aw k (by omega)
  · intro k
    simp only [va_up_eq]
    split
    · omega
    · exact bw k
end CLSC
