/-! THE CLASS: the rules' object -/
def cdG : List (Nat × List (Nat × Nat)) → List (Nat × Nat)
  | [] => []
  | l :: r => l.2 ++ cdG r
theorem cdG_sn (rl : List (Nat × List (Nat × Nat))) (l : Nat × List (Nat × Nat)) : cdG (rl ++ [l]) = cdG rl ++ l.2 := by
  induction rl with
  | nil => simp [cdG]
  | cons t r ih => simp [cdG, ih]
/-- the cells of a rules' object are apart -/
def RUD (z : Nat → Nat) : Prop := ∀ i j, i = 1 ∨ i = 2 ∨ i = 3 ∨ i = 5 → j = 1 ∨ j = 2 ∨ j = 3 ∨ j = 5 → (z i = z j ↔ i = j)
/-- rules: lines, and the codes of the line that is being read -/
def RUO (h : gHp) (z : Nat → Nat) (rl : List (Nat × List (Nat × Nat))) (pd : List (Nat × Nat)) : Prop := (hK h (z 0) = 7 ∧ hR h 6 1 (z 0) = some (z 1) ∧ hR h 6 2 (z 0) = some (z 2) ∧ hR h 6 3 (z 0) = some (z 3) ∧ hR h 6 5 (z 0) = some (z 5) ∧ hK h (z 1) = 12 ∧ hK h (z 2) = 12 ∧ hK h (z 3) = 12 ∧ hK h (z 5) = 12 ∧ hN h (z 1) = 16 ∧ hN h (z 2) = 16 ∧ hN h (z 3) = 600 ∧ hN h (z 5) = 16 ∧ hI h 6 0 (z 0) = nI rl.length ∧ hI h 6 4 (z 0) = nI (cdG rl ++ pd).length) ∧ rl.length ≤ 16 ∧ (cdG rl ++ pd).length ≤ 600 ∧ (∀ k, k < (cdG rl ++ pd).length → hA h 12 (z 3) k = cI ((cdG rl ++ pd).getD k (0, 0))) ∧ (∀ i, i < rl.length → hA h 12 (z 1) i = nI (rl.getD i (0, [])).1 ∧ hA h 12 (z 2) i = nI (cdG (rl.take (i + 1))).length)
section CLSI
variable {B : gB} {h : gHp} {d n : Nat} {Q : Option Value → gHp → Prop} {z : Nat → Nat} {rl : List (Nat × List (Nat × Nat))} {pd : List (Nat × Nat)}
set_option maxRecDepth 100000 in
set_option maxHeartbeats 800000 in
theorem x_rwipe (hr : RUO h z rl pd) (hq : ∀ h', FRM [(6, 0, z 0), (6, 4, z 0)] [] h h' → RUO h' z [] [] → Q none h') : gFn B mX5_wipe (d + 1) 0 0 [.ref (z 0)] h Q := by
  obtain ⟨⟨k0, r1, r2, r3, r5, k1, k2, k3, k5, n1, n2, n3, n5, i0, i4⟩, hl, hc, ac, al⟩ := hr
  refine gStartX (cut := []) pnX5_wipe okX5_wipe (Nat.le_of_ble_eq_true rfl) 60 ?_
  simp only [axC_nil, axC_hit, axC_def, cutAt, lvLive, Option.isSome_none, Option.isSome_some, catS, lvGet, lvIns, lvSet1, lvSet2, gLit_0, gLit_1, lv_args, fv0, fv1, fv2, fv3, isI_s, isL_s, isRf_s, isRf_n, gtI_s, gtL_s, gtV_s, gFilter_nil, gFilter_cons, gL1, gL2, gL3, gL4, gL5, va_rf_s, va_rf_n, hK_sI, hK_sR, hK_sA, hK_sJ, hK_sO, hI_sI, hI_sR, hI_sA, hI_sJ, hI_sO, hR_sI, hR_sR, hR_sA, hR_sJ, hR_sO, hN_sI, hN_sR, hN_sA, hN_sJ, hN_sO, hA_sI, hA_sR, hA_sA, hA_sJ, hA_sO, hJ_sI, hJ_sR, hJ_sA, hJ_sJ, hJ_sO, hO_sI, hO_sR, hO_sA, hO_sJ, hO_sO, up3_eq, up2_eq, List.map_cons, List.map_nil, List.sum_cons, List.sum_nil, List.nil_append, List.cons_append, Option.toList_some, Option.toList_none, true_and, and_true, if_true, if_false, and_self, true_or, or_true, or_false, false_or, false_and, and_false, not_true_eq_false, not_false_eq_true, forall_const, reduceCtorEq, implies_true, List.contains_cons, List.contains_nil, Bool.or_false, Bool.false_or, Bool.or_true, Bool.true_or, Bool.and_true, Bool.true_and, Bool.and_false, Bool.false_and, Bool.not_true, Bool.not_false, BEq.rfl, Bool.false_eq_true, Bool.true_eq_false, eq_self, ↓reduceIte, Nat.reduceAdd, Nat.reduceEqDiff, Nat.reduceBEq, Nat.reduceLT, Nat.reduceLeDiff, Nat.reduceSub, Nat.reduceMul, Nat.reduceBNe, List.append_nil, Nat.zero_le, Nat.zero_add, Nat.zero_ne_one, Nat.one_ne_zero, false_implies, true_implies, not_false_eq_true, ne_eq, upd_e, updL_e, bI_zo, nI0z, nI1o, nI1z, nI0o, nI0q, nI1q, nm1_lt, nm1_ge, ax_aload_n tX5_wipe_0, ax_iconst tX5_wipe_1, ax_putI tX5_wipe_2, ax_aload_n tX5_wipe_5, ax_iconst tX5_wipe_6, ax_putI tX5_wipe_7, ax_vret tX5_wipe_10, k0]
  exact hq _ (((FRM.rf h).sI (by simp)).sI (by simp)) ⟨⟨k0, r1, r2, r3, r5, k1, k2, k3, k5, n1, n2, n3, n5, by simp [hI_sI, up3_eq], by simp [hI_sI, up3_eq, cdG]⟩, by simp, by simp [cdG], fun k hk => by simp [cdG] at hk, fun i hi => by simp at hi⟩
set_option maxRecDepth 100000 in
set_option maxHeartbeats 800000 in
theorem x_putCode {q : Nat × Nat} (hr : RUO h z rl pd) (hd : RUD z) (h6 : (cdG rl ++ pd).length < 600) (hq : ∀ h', FRM [(6, 4, z 0)] [(12, z 3)] h h' → RUO h' z rl (pd ++ [q]) → Q none h') : gFn B mX5_putCode (d + 1) 0 0 [.ref (z 0), .int (cI q)] h Q := by
  obtain ⟨⟨k0, r1, r2, r3, r5, k1, k2, k3, k5, n1, n2, n3, n5, i0, i4⟩, hl, hc, ac, al⟩ := hr
  have e : cdG rl ++ (pd ++ [q]) = (cdG rl ++ pd) ++ [q] := by simp
  have e2 : ((cdG rl ++ pd) ++ [q]).length = (cdG rl ++ pd).length + 1 := List.length_append
  refine gStartX (cut := []) pnX5_putCode okX5_putCode (Nat.le_of_ble_eq_true rfl) 60 ?_
  simp only [axC_nil, axC_hit, axC_def, cutAt, lvLive, Option.isSome_none, Option.isSome_some, catS, lvGet, lvIns, lvSet1, lvSet2, gLit_0, gLit_1, lv_args, fv0, fv1, fv2, fv3, isI_s, isL_s, isRf_s, isRf_n, gtI_s, gtL_s, gtV_s, gFilter_nil, gFilter_cons, gL1, gL2, gL3, gL4, gL5, va_rf_s, va_rf_n, hK_sI, hK_sR, hK_sA, hK_sJ, hK_sO, hI_sI, hI_sR, hI_sA, hI_sJ, hI_sO, hR_sI, hR_sR, hR_sA, hR_sJ, hR_sO, hN_sI, hN_sR, hN_sA, hN_sJ, hN_sO, hA_sI, hA_sR, hA_sA, hA_sJ, hA_sO, hJ_sI, hJ_sR, hJ_sA, hJ_sJ, hJ_sO, hO_sI, hO_sR, hO_sA, hO_sJ, hO_sO, up3_eq, up2_eq, List.map_cons, List.map_nil, List.sum_cons, List.sum_nil, List.nil_append, List.cons_append, Option.toList_some, Option.toList_none, true_and, and_true, if_true, if_false, and_self, true_or, or_true, or_false, false_or, false_and, and_false, not_true_eq_false, not_false_eq_true, forall_const, reduceCtorEq, implies_true, List.contains_cons, List.contains_nil, Bool.or_false, Bool.false_or, Bool.or_true, Bool.true_or, Bool.and_true, Bool.true_and, Bool.and_false, Bool.false_and, Bool.not_true, Bool.not_false, BEq.rfl, Bool.false_eq_true, Bool.true_eq_false, eq_self, ↓reduceIte, Nat.reduceAdd, Nat.reduceEqDiff, Nat.reduceBEq, Nat.reduceLT, Nat.reduceLeDiff, Nat.reduceSub, Nat.reduceMul, Nat.reduceBNe, List.append_nil, Nat.zero_le, Nat.zero_add, Nat.zero_ne_one, Nat.one_ne_zero, false_implies, true_implies, not_false_eq_true, ne_eq, upd_e, updL_e, bI_zo, nI0z, nI1o, nI1z, nI0o, nI0q, nI1q, nm1_lt, nm1_ge, ax_aload_n tX5_putCode_0, ax_getI tX5_putCode_1, ax_sipush tX5_putCode_4, ax_icmp_ge tX5_putCode_7, ax_aload_n tX5_putCode_10, ax_getR tX5_putCode_11, ax_aload_n tX5_putCode_14, ax_getI tX5_putCode_15, ax_iload_n tX5_putCode_18, ax_iastore tX5_putCode_19, ax_aload_n tX5_putCode_20, ax_dup tX5_putCode_21, ax_getI tX5_putCode_22, ax_iconst tX5_putCode_25, ax_iadd tX5_putCode_26, ax_putI tX5_putCode_27, ax_vret tX5_putCode_30, k0, i4, r3, k3, n3]
  simp (disch := omega) only [z0, o1, nI_add, pk_mul, nI_ltI, nI_leI, nI_eq, nI_clamp, vpn, pk_sub, Nat.add_sub_cancel, bI_0, bI_1, eq_self, true_or, or_true, or_false, false_or, true_and, and_true, false_and, and_false, and_self, or_self, forall_const, not_true_eq_false, not_false_eq_true, false_implies, implies_true, true_implies, ↓reduceIte, if_true, if_false, Nat.not_lt_zero, Nat.zero_le, Nat.le_refl, Nat.lt_irrefl, ne_eq, reduceCtorEq, Bool.false_eq_true]
  refine ⟨fun c => absurd c (by omega), fun _ => ⟨by omega, hq _ (((FRM.rf h).sA (by simp)).sI (by simp)) ?_⟩⟩
  refine ⟨⟨k0, r1, r2, r3, r5, k1, k2, k3, k5, n1, n2, n3, n5, by rw [hI_sI, up3_eq, if_neg (by omega)]; exact i0, ?_⟩, hl, ?_, fun k hk => ?_, fun i hi => ?_⟩
  · rw [e, e2, hI_sI, up3_eq, if_pos ⟨rfl, rfl, rfl⟩]
  · rw [e, e2]; omega
  · rw [e, e2] at hk
    rw [e, gD_sn]
    simp only [hA_sI, hA_sA, up2_eq, and_self, if_true, upd_e]
    split
    · rfl
    · exact ac k (by omega)
  · simp only [hA_sI, hA_sA, up2_eq]
    rw [if_neg (by rw [hd 1 3 (by omega) (by omega)]; omega), if_neg (by rw [hd 2 3 (by omega) (by omega)]; omega)]
    exact al i hi
set_option maxRecDepth 100000 in
set_option maxHeartbeats 800000 in
theorem x_closeLine {g : Nat} (hr : RUO h z rl pd) (hd : RUD z) (hl16 : rl.length < 16) (hq : ∀ h', FRM [(6, 0, z 0)] [(12, z 1), (12, z 2)] h h' → RUO h' z (rl ++ [(g, pd)]) [] → Q none h') : gFn B mX5_closeLine (d + 1) 0 0 [.ref (z 0), .int (nI g)] h Q := by
  obtain ⟨⟨k0, r1, r2, r3, r5, k1, k2, k3, k5, n1, n2, n3, n5, i0, i4⟩, hl, hc, ac, al⟩ := hr
  have d21 : ¬ z 2 = z 1 := by rw [hd 2 1 (by omega) (by omega)]; omega
  have d12 : ¬ z 1 = z 2 := by rw [hd 1 2 (by omega) (by omega)]; omega
  have d31 : ¬ z 3 = z 1 := by rw [hd 3 1 (by omega) (by omega)]; omega
  have d32 : ¬ z 3 = z 2 := by rw [hd 3 2 (by omega) (by omega)]; omega
  have e : cdG (rl ++ [(g, pd)]) ++ [] = cdG rl ++ pd := by rw [cdG_sn]; simp
  refine gStartX (cut := []) pnX5_closeLine okX5_closeLine (Nat.le_of_ble_eq_true rfl) 60 ?_
  simp only [axC_nil, axC_hit, axC_def, cutAt, lvLive, Option.isSome_none, Option.isSome_some, catS, lvGet, lvIns, lvSet1, lvSet2, gLit_0, gLit_1, lv_args, fv0, fv1, fv2, fv3, isI_s, isL_s, isRf_s, isRf_n, gtI_s, gtL_s, gtV_s, gFilter_nil, gFilter_cons, gL1, gL2, gL3, gL4, gL5, va_rf_s, va_rf_n, hK_sI, hK_sR, hK_sA, hK_sJ, hK_sO, hI_sI, hI_sR, hI_sA, hI_sJ, hI_sO, hR_sI, hR_sR, hR_sA, hR_sJ, hR_sO, hN_sI, hN_sR, hN_sA, hN_sJ, hN_sO, hA_sI, hA_sR, hA_sA, hA_sJ, hA_sO, hJ_sI, hJ_sR, hJ_sA, hJ_sJ, hJ_sO, hO_sI, hO_sR, hO_sA, hO_sJ, hO_sO, up3_eq, up2_eq, List.map_cons, List.map_nil, List.sum_cons, List.sum_nil, List.nil_append, List.cons_append, Option.toList_some, Option.toList_none, true_and, and_true, if_true, if_false, and_self, true_or, or_true, or_false, false_or, false_and, and_false, not_true_eq_false, not_false_eq_true, forall_const, reduceCtorEq, implies_true, List.contains_cons, List.contains_nil, Bool.or_false, Bool.false_or, Bool.or_true, Bool.true_or, Bool.and_true, Bool.true_and, Bool.and_false, Bool.false_and, Bool.not_true, Bool.not_false, BEq.rfl, Bool.false_eq_true, Bool.true_eq_false, eq_self, ↓reduceIte, Nat.reduceAdd, Nat.reduceEqDiff, Nat.reduceBEq, Nat.reduceLT, Nat.reduceLeDiff, Nat.reduceSub, Nat.reduceMul, Nat.reduceBNe, List.append_nil, Nat.zero_le, Nat.zero_add, Nat.zero_ne_one, Nat.one_ne_zero, false_implies, true_implies, not_false_eq_true, ne_eq, upd_e, updL_e, bI_zo, nI0z, nI1o, nI1z, nI0o, nI0q, nI1q, nm1_lt, nm1_ge, ax_aload_n tX5_closeLine_0, ax_getI tX5_closeLine_1, ax_bipush tX5_closeLine_4, ax_icmp_ge tX5_closeLine_6, ax_aload_n tX5_closeLine_9, ax_getR tX5_closeLine_10, ax_aload_n tX5_closeLine_13, ax_getI tX5_closeLine_14, ax_iload_n tX5_closeLine_17, ax_iastore tX5_closeLine_18, ax_aload_n tX5_closeLine_19, ax_getR tX5_closeLine_20, ax_aload_n tX5_closeLine_23, ax_getI tX5_closeLine_24, ax_aload_n tX5_closeLine_27, ax_getI tX5_closeLine_28, ax_iastore tX5_closeLine_31, ax_aload_n tX5_closeLine_32, ax_dup tX5_closeLine_33, ax_getI tX5_closeLine_34, ax_iconst tX5_closeLine_37, ax_iadd tX5_closeLine_38, ax_putI tX5_closeLine_39, ax_vret tX5_closeLine_42, k0, i0, i4, r1, r2, k1, k2, n1, n2, d21]
  simp (disch := omega) only [z0, o1, nI_add, pk_mul, nI_ltI, nI_leI, nI_eq, nI_clamp, vpn, pk_sub, Nat.add_sub_cancel, bI_0, bI_1, eq_self, true_or, or_true, or_false, false_or, true_and, and_true, false_and, and_false, and_self, or_self, forall_const, not_true_eq_false, not_false_eq_true, false_implies, implies_true, true_implies, ↓reduceIte, if_true, if_false, Nat.not_lt_zero, Nat.zero_le, Nat.le_refl, Nat.lt_irrefl, ne_eq, reduceCtorEq, Bool.false_eq_true]
  refine ⟨fun c => absurd c (by omega), fun _ => ⟨by omega, by omega, hq _ ((((FRM.rf h).sA (by simp)).sA (by simp)).sI (by simp)) ?_⟩⟩
  refine ⟨⟨k0, r1, r2, r3, r5, k1, k2, k3, k5, n1, n2, n3, n5, ?_, ?_⟩, by simp; omega, ?_, fun k hk => ?_, fun i hi => ?_⟩
  · rw [List.length_append]; simp [hI_sI, up3_eq]
  · rw [e, hI_sI, up3_eq, if_neg (by omega)]; exact i4
  · rw [e]; exact hc
  · rw [e] at hk ⊢
    simp only [hA_sI, hA_sA, up2_eq, d31, d32, and_false, if_false]
    exact ac k hk
  · simp only [List.length_append, List.length_cons, List.length_nil] at hi
    simp only [hA_sI, hA_sA, up2_eq, d12, and_false, if_false, and_self, if_true, upd_e]
    rw [gD_sn]
    by_cases ei : i = rl.length
    · rw [if_pos ei, if_pos ei, if_pos ei]
      refine ⟨rfl, ?_⟩
      rw [ei, List.take_of_length_le (by simp), cdG_sn]
    · rw [if_neg ei, if_neg ei, if_neg ei]
      have := al i (by omega)
      rw [List.take_append_of_le_length (by omega)]
      exact this
theorem sA_sA {t b : Nat} {f g : Nat → Int32} : sA (sA h t b f) t b g = sA h t b g := by
  have : up2 (up2 (hA h) t b f) t b g = up2 (hA h) t b g := by
    funext t' b'
    simp only [up2_eq]
    split <;> rfl
  unfold sA
  show (hK h, hI h, hR h, hN h, up2 (up2 (hA h) t b f) t b g, hJ h, hO h) = _
  rw [this]
theorem sA_id {t b : Nat} : sA h t b (hA h t b) = h := by
  have : up2 (hA h) t b (hA h t b) = hA h := by
    funext t' b'
    rw [up2_eq]
    split
    · rename_i q; rw [q.1, q.2]
    · rfl
  unfold sA
  rw [this]
  rfl
theorem PP_at {f : Nat → Int32} : ∀ {st : List Int32} {k : Nat} {v : Int32}, PP f (st ++ [v]) → f 0 = v := by
  intro st
  induction st with
  | nil => intro k v h; exact h.1
  | cons x t ih => intro k v h; exact ih (k := k) h.2
set_option maxRecDepth 100000 in
set_option maxHeartbeats 3200000 in
theorem x_valueOf_loop {E e pg dy fo th now en : Nat} {f zp : Nat → Nat} {v : Int32} (hr : RUO h z rl pd) (hd : RUD z) (hp : PAP E h zp e pg dy fo th f) (hdn : dy ≤ now) (hn : now < 2 ^ 31) (hen : en ≤ 600) (hq : ∀ F, Q (some (.int v)) (sA h 12 (z 5) F)) : ∀ (cs : List (Nat × Nat)) (i : Nat) (st : List Int32) (F : Nat → Int32), i + cs.length = en → (∀ k, k < cs.length → hA h 12 (z 3) (i + k) = cI (cs.getD k (0, 0))) → (∀ q, q ∈ cs → GQ q) → evL 16 (knP now pg dy fo th) cs st = some [v] → PP F st → st.length ≤ 16 → gG B mX5_valueOf (d + 3) 0 0 6 [(0, .ref (z 0)), (2, .int (nI en)), (3, .ref (zp 0)), (4, .int (nI now)), (5, .int (nI st.length)), (6, .int (nI i))] [] (sA h 12 (z 5) F) Q := by
  obtain ⟨⟨k0, r1, r2, r3, r5, k1, k2, k3, k5, n1, n2, n3, n5, i0, i4⟩, hl, hc, ac, al⟩ := hr
  have d35 : ¬ z 3 = z 5 := by rw [hd 3 5 (by omega) (by omega)]; omega
  intro cs
  induction cs with
  | nil =>
    intro i st F h1 h2 h3 he hP hs
    simp only [evL, Option.some.injEq] at he
    subst he
    simp only [List.length_nil, Nat.add_zero] at h1
    subst h1
    refine gAx (cut := []) okX5_valueOf 60 ?_
    simp only [axC_nil, axC_hit, axC_def, cutAt, lvLive, Option.isSome_none, Option.isSome_some, catS, lvGet, lvIns, lvSet1, lvSet2, gLit_0, gLit_1, lv_args, fv0, fv1, fv2, fv3, isI_s, isL_s, isRf_s, isRf_n, gtI_s, gtL_s, gtV_s, gFilter_nil, gFilter_cons, gL1, gL2, gL3, gL4, gL5, va_rf_s, va_rf_n, hK_sI, hK_sR, hK_sA, hK_sJ, hK_sO, hI_sI, hI_sR, hI_sA, hI_sJ, hI_sO, hR_sI, hR_sR, hR_sA, hR_sJ, hR_sO, hN_sI, hN_sR, hN_sA, hN_sJ, hN_sO, hA_sI, hA_sR, hA_sA, hA_sJ, hA_sO, hJ_sI, hJ_sR, hJ_sA, hJ_sJ, hJ_sO, hO_sI, hO_sR, hO_sA, hO_sJ, hO_sO, up3_eq, up2_eq, List.map_cons, List.map_nil, List.sum_cons, List.sum_nil, List.nil_append, List.cons_append, Option.toList_some, Option.toList_none, true_and, and_true, if_true, if_false, and_self, true_or, or_true, or_false, false_or, false_and, and_false, not_true_eq_false, not_false_eq_true, forall_const, reduceCtorEq, implies_true, List.contains_cons, List.contains_nil, Bool.or_false, Bool.false_or, Bool.or_true, Bool.true_or, Bool.and_true, Bool.true_and, Bool.and_false, Bool.false_and, Bool.not_true, Bool.not_false, BEq.rfl, Bool.false_eq_true, Bool.true_eq_false, eq_self, ↓reduceIte, Nat.reduceAdd, Nat.reduceEqDiff, Nat.reduceBEq, Nat.reduceLT, Nat.reduceLeDiff, Nat.reduceSub, Nat.reduceMul, Nat.reduceBNe, List.append_nil, Nat.zero_le, Nat.zero_add, Nat.zero_ne_one, Nat.one_ne_zero, false_implies, true_implies, not_false_eq_true, ne_eq, upd_e, updL_e, bI_zo, nI0z, nI1o, nI1z, nI0o, nI0q, nI1q, nm1_lt, nm1_ge, ax_iconst tX5_valueOf_0, ax_istore tX5_valueOf_1, ax_iload_n tX5_valueOf_3, ax_istore tX5_valueOf_4, ax_iload tX5_valueOf_6, ax_iload_n tX5_valueOf_8, ax_icmp_ge tX5_valueOf_9, ax_iload tX5_valueOf_12, ax_sipush tX5_valueOf_14, ax_icmp_ge tX5_valueOf_17, ax_aload_n tX5_valueOf_20, ax_getR tX5_valueOf_21, ax_iload tX5_valueOf_24, ax_iaload tX5_valueOf_26, ax_istore tX5_valueOf_27, ax_iload tX5_valueOf_29, ax_callS1 tX5_valueOf_31, ax_if_eq tX5_valueOf_34, ax_iload tX5_valueOf_37, ax_bipush tX5_valueOf_39, ax_icmp_ge tX5_valueOf_41, ax_aload_n tX5_valueOf_44, ax_getR tX5_valueOf_45, ax_iload tX5_valueOf_48, ax_iload tX5_valueOf_50, ax_aload_n tX5_valueOf_52, ax_iload tX5_valueOf_53, ax_callS3 tX5_valueOf_55, ax_iastore tX5_valueOf_58, ax_iinc tX5_valueOf_59, ax_goto tX5_valueOf_62, ax_iload tX5_valueOf_65, ax_iconst tX5_valueOf_67, ax_icmp_lt tX5_valueOf_68, ax_iinc tX5_valueOf_71, ax_aload_n tX5_valueOf_74, ax_getR tX5_valueOf_75, ax_iload tX5_valueOf_78, ax_iconst tX5_valueOf_80, ax_isub tX5_valueOf_81, ax_iload tX5_valueOf_82, ax_aload_n tX5_valueOf_84, ax_getR tX5_valueOf_85, ax_iload tX5_valueOf_88, ax_iconst tX5_valueOf_90, ax_isub tX5_valueOf_91, ax_iaload tX5_valueOf_92, ax_aload_n tX5_valueOf_93, ax_getR tX5_valueOf_94, ax_iload tX5_valueOf_97, ax_iaload tX5_valueOf_99, ax_callS3 tX5_valueOf_100, ax_iastore tX5_valueOf_103, ax_iinc tX5_valueOf_104, ax_goto tX5_valueOf_107, ax_aload_n tX5_valueOf_110, ax_getR tX5_valueOf_111, ax_iconst tX5_valueOf_114, ax_iaload tX5_valueOf_115, ax_iretI tX5_valueOf_116, f_26, f_31, f_32, k0, r5, k5, n5]
    simp (disch := omega) only [z0, o1, nI_add, pk_mul, nI_ltI, nI_leI, nI_eq, nI_clamp, vpn, pk_sub, Nat.add_sub_cancel, bI_0, bI_1, eq_self, true_or, or_true, or_false, false_or, true_and, and_true, false_and, and_false, and_self, or_self, forall_const, not_true_eq_false, not_false_eq_true, false_implies, implies_true, true_implies, ↓reduceIte, if_true, if_false, Nat.not_lt_zero, Nat.zero_le, Nat.le_refl, Nat.lt_irrefl, ne_eq, reduceCtorEq, Bool.false_eq_true]
    have p0 : F 0 = v := hP.1
    rw [p0]
    exact ⟨by omega, hq F⟩
  | cons q cs ih =>
    intro i st F h1 h2 h3 he hP hs
    simp only [List.length_cons] at h1 h2
    have hc0 := h2 0 (by omega)
    simp only [Nat.add_zero, List.getD_cons_zero] at hc0
    have gq := h3 q (List.mem_cons_self ..)
    have h3' := fun q hq => h3 q (List.mem_cons_of_mem _ hq)
    have h2' : ∀ k, k < cs.length → hA h 12 (z 3) (i + 1 + k) = cI (cs.getD k (0, 0)) := fun k hk => by
      have := h2 (k + 1) (by omega)
      rw [show i + 1 + k = i + (k + 1) by omega]
      simpa using this
    have ct : cT q < 10017 := by
      obtain ⟨g1, g2, g3, g4, g5⟩ := gq
      unfold cT
      repeat' split
      all_goals omega
    have push : ∀ (u : Int32) (t : List Int32) (F : Nat → Int32), evL 16 (knP now pg dy fo th) cs (u :: t) = some [v] → PP F t → t.length < 16 → gG B mX5_valueOf (d + 3) 0 0 6 [(0, .ref (z 0)), (2, .int (nI en)), (3, .ref (zp 0)), (4, .int (nI now)), (5, .int (nI (t.length + 1))), (6, .int (nI (i + 1)))] [] (sA (sA h 12 (z 5) F) 12 (z 5) (upd F t.length u)) Q := by
      intro u t F e2 hp2 ht
      rw [sA_sA]
      exact ih (i + 1) (u :: t) (upd F t.length u) (by omega) h2' h3' e2 (PP_push hp2) (by simp; omega)
    refine gAx (cut := []) okX5_valueOf 60 ?_
    simp only [axC_nil, axC_hit, axC_def, cutAt, lvLive, Option.isSome_none, Option.isSome_some, catS, lvGet, lvIns, lvSet1, lvSet2, gLit_0, gLit_1, lv_args, fv0, fv1, fv2, fv3, isI_s, isL_s, isRf_s, isRf_n, gtI_s, gtL_s, gtV_s, gFilter_nil, gFilter_cons, gL1, gL2, gL3, gL4, gL5, va_rf_s, va_rf_n, hK_sI, hK_sR, hK_sA, hK_sJ, hK_sO, hI_sI, hI_sR, hI_sA, hI_sJ, hI_sO, hR_sI, hR_sR, hR_sA, hR_sJ, hR_sO, hN_sI, hN_sR, hN_sA, hN_sJ, hN_sO, hA_sI, hA_sR, hA_sA, hA_sJ, hA_sO, hJ_sI, hJ_sR, hJ_sA, hJ_sJ, hJ_sO, hO_sI, hO_sR, hO_sA, hO_sJ, hO_sO, up3_eq, up2_eq, List.map_cons, List.map_nil, List.sum_cons, List.sum_nil, List.nil_append, List.cons_append, Option.toList_some, Option.toList_none, true_and, and_true, if_true, if_false, and_self, true_or, or_true, or_false, false_or, false_and, and_false, not_true_eq_false, not_false_eq_true, forall_const, reduceCtorEq, implies_true, List.contains_cons, List.contains_nil, Bool.or_false, Bool.false_or, Bool.or_true, Bool.true_or, Bool.and_true, Bool.true_and, Bool.and_false, Bool.false_and, Bool.not_true, Bool.not_false, BEq.rfl, Bool.false_eq_true, Bool.true_eq_false, eq_self, ↓reduceIte, Nat.reduceAdd, Nat.reduceEqDiff, Nat.reduceBEq, Nat.reduceLT, Nat.reduceLeDiff, Nat.reduceSub, Nat.reduceMul, Nat.reduceBNe, List.append_nil, Nat.zero_le, Nat.zero_add, Nat.zero_ne_one, Nat.one_ne_zero, false_implies, true_implies, not_false_eq_true, ne_eq, upd_e, updL_e, bI_zo, nI0z, nI1o, nI1z, nI0o, nI0q, nI1q, nm1_lt, nm1_ge, ax_iconst tX5_valueOf_0, ax_istore tX5_valueOf_1, ax_iload_n tX5_valueOf_3, ax_istore tX5_valueOf_4, ax_iload tX5_valueOf_6, ax_iload_n tX5_valueOf_8, ax_icmp_ge tX5_valueOf_9, ax_iload tX5_valueOf_12, ax_sipush tX5_valueOf_14, ax_icmp_ge tX5_valueOf_17, ax_aload_n tX5_valueOf_20, ax_getR tX5_valueOf_21, ax_iload tX5_valueOf_24, ax_iaload tX5_valueOf_26, ax_istore tX5_valueOf_27, ax_iload tX5_valueOf_29, ax_callS1 tX5_valueOf_31, ax_if_eq tX5_valueOf_34, ax_iload tX5_valueOf_37, ax_bipush tX5_valueOf_39, ax_icmp_ge tX5_valueOf_41, ax_aload_n tX5_valueOf_44, ax_getR tX5_valueOf_45, ax_iload tX5_valueOf_48, ax_iload tX5_valueOf_50, ax_aload_n tX5_valueOf_52, ax_iload tX5_valueOf_53, ax_callS3 tX5_valueOf_55, ax_iastore tX5_valueOf_58, ax_iinc tX5_valueOf_59, ax_goto tX5_valueOf_62, ax_iload tX5_valueOf_65, ax_iconst tX5_valueOf_67, ax_icmp_lt tX5_valueOf_68, ax_iinc tX5_valueOf_71, ax_aload_n tX5_valueOf_74, ax_getR tX5_valueOf_75, ax_iload tX5_valueOf_78, ax_iconst tX5_valueOf_80, ax_isub tX5_valueOf_81, ax_iload tX5_valueOf_82, ax_aload_n tX5_valueOf_84, ax_getR tX5_valueOf_85, ax_iload tX5_valueOf_88, ax_iconst tX5_valueOf_90, ax_isub tX5_valueOf_91, ax_iaload tX5_valueOf_92, ax_aload_n tX5_valueOf_93, ax_getR tX5_valueOf_94, ax_iload tX5_valueOf_97, ax_iaload tX5_valueOf_99, ax_callS3 tX5_valueOf_100, ax_iastore tX5_valueOf_103, ax_iinc tX5_valueOf_104, ax_goto tX5_valueOf_107, ax_aload_n tX5_valueOf_110, ax_getR tX5_valueOf_111, ax_iconst tX5_valueOf_114, ax_iaload tX5_valueOf_115, ax_iretI tX5_valueOf_116, f_26, f_31, f_32, k0, r3, k3, n3, d35]
    simp (disch := omega) only [z0, o1, nI_add, pk_mul, nI_ltI, nI_leI, nI_eq, nI_clamp, vpn, pk_sub, Nat.add_sub_cancel, bI_0, bI_1, eq_self, true_or, or_true, or_false, false_or, true_and, and_true, false_and, and_false, and_self, or_self, forall_const, not_true_eq_false, not_false_eq_true, false_implies, implies_true, true_implies, ↓reduceIte, if_true, if_false, Nat.not_lt_zero, Nat.zero_le, Nat.le_refl, Nat.lt_irrefl, ne_eq, reduceCtorEq, Bool.false_eq_true]
    rw [hc0]
    refine ⟨fun c => absurd c (by omega), fun _ => ⟨fun c => absurd c (by omega), fun _ => ⟨by omega, ?_⟩⟩⟩
    refine x_isOperand ct ?_
    unfold evL at he
    by_cases q1 : q.1 = 1 ∨ q.1 = 2
    · have ho : isOpd (cT q) := by
        obtain ⟨g1, g2, g3, g4, g5⟩ := gq
        unfold cT isOpd
        rcases q1 with q1 | q1
        · rw [if_pos q1]; omega
        · rw [if_neg (by omega), if_pos q1]; have := g4 q1; omega
      have hlt : st.length < 16 ∧ evL 16 (knP now pg dy fo th) cs ((if 17 ≤ cT q then nI (cT q - 17) else knP now pg dy fo th (cT q - 4)) :: st) = some [v] := by
        obtain ⟨g1, g2, g3, g4, g5⟩ := gq
        rcases q1 with q1 | q1
        · rw [if_pos q1] at he
          have ec : cT q = 17 + q.2 := by unfold cT; rw [if_pos q1]
          rw [ec, if_pos (by omega), Nat.add_sub_cancel_left]
          split at he
          · rename_i hlt; exact ⟨hlt, he⟩
          · cases he
        · rw [if_neg (by omega), if_pos q1] at he
          have := g4 q1
          have ec : cT q = 4 + q.2 := by unfold cT; rw [if_neg (by omega), if_pos q1]
          rw [ec, if_neg (by omega), Nat.add_sub_cancel_left]
          split at he
          · rename_i hlt; exact ⟨hlt, he⟩
          · cases he
      rw [decide_eq_true ho]
      have K := push _ st F hlt.2 hP hlt.1
      refine gAx (cut := []) okX5_valueOf 60 ?_
      simp only [axC_nil, axC_hit, axC_def, cutAt, lvLive, Option.isSome_none, Option.isSome_some, catS, lvGet, lvIns, lvSet1, lvSet2, gLit_0, gLit_1, lv_args, fv0, fv1, fv2, fv3, isI_s, isL_s, isRf_s, isRf_n, gtI_s, gtL_s, gtV_s, gFilter_nil, gFilter_cons, gL1, gL2, gL3, gL4, gL5, va_rf_s, va_rf_n, hK_sI, hK_sR, hK_sA, hK_sJ, hK_sO, hI_sI, hI_sR, hI_sA, hI_sJ, hI_sO, hR_sI, hR_sR, hR_sA, hR_sJ, hR_sO, hN_sI, hN_sR, hN_sA, hN_sJ, hN_sO, hA_sI, hA_sR, hA_sA, hA_sJ, hA_sO, hJ_sI, hJ_sR, hJ_sA, hJ_sJ, hJ_sO, hO_sI, hO_sR, hO_sA, hO_sJ, hO_sO, up3_eq, up2_eq, List.map_cons, List.map_nil, List.sum_cons, List.sum_nil, List.nil_append, List.cons_append, Option.toList_some, Option.toList_none, true_and, and_true, if_true, if_false, and_self, true_or, or_true, or_false, false_or, false_and, and_false, not_true_eq_false, not_false_eq_true, forall_const, reduceCtorEq, implies_true, List.contains_cons, List.contains_nil, Bool.or_false, Bool.false_or, Bool.or_true, Bool.true_or, Bool.and_true, Bool.true_and, Bool.and_false, Bool.false_and, Bool.not_true, Bool.not_false, BEq.rfl, Bool.false_eq_true, Bool.true_eq_false, eq_self, ↓reduceIte, Nat.reduceAdd, Nat.reduceEqDiff, Nat.reduceBEq, Nat.reduceLT, Nat.reduceLeDiff, Nat.reduceSub, Nat.reduceMul, Nat.reduceBNe, List.append_nil, Nat.zero_le, Nat.zero_add, Nat.zero_ne_one, Nat.one_ne_zero, false_implies, true_implies, not_false_eq_true, ne_eq, upd_e, updL_e, bI_zo, nI0z, nI1o, nI1z, nI0o, nI0q, nI1q, nm1_lt, nm1_ge, ax_iconst tX5_valueOf_0, ax_istore tX5_valueOf_1, ax_iload_n tX5_valueOf_3, ax_istore tX5_valueOf_4, ax_iload tX5_valueOf_6, ax_iload_n tX5_valueOf_8, ax_icmp_ge tX5_valueOf_9, ax_iload tX5_valueOf_12, ax_sipush tX5_valueOf_14, ax_icmp_ge tX5_valueOf_17, ax_aload_n tX5_valueOf_20, ax_getR tX5_valueOf_21, ax_iload tX5_valueOf_24, ax_iaload tX5_valueOf_26, ax_istore tX5_valueOf_27, ax_iload tX5_valueOf_29, ax_callS1 tX5_valueOf_31, ax_if_eq tX5_valueOf_34, ax_iload tX5_valueOf_37, ax_bipush tX5_valueOf_39, ax_icmp_ge tX5_valueOf_41, ax_aload_n tX5_valueOf_44, ax_getR tX5_valueOf_45, ax_iload tX5_valueOf_48, ax_iload tX5_valueOf_50, ax_aload_n tX5_valueOf_52, ax_iload tX5_valueOf_53, ax_callS3 tX5_valueOf_55, ax_iastore tX5_valueOf_58, ax_iinc tX5_valueOf_59, ax_goto tX5_valueOf_62, ax_iload tX5_valueOf_65, ax_iconst tX5_valueOf_67, ax_icmp_lt tX5_valueOf_68, ax_iinc tX5_valueOf_71, ax_aload_n tX5_valueOf_74, ax_getR tX5_valueOf_75, ax_iload tX5_valueOf_78, ax_iconst tX5_valueOf_80, ax_isub tX5_valueOf_81, ax_iload tX5_valueOf_82, ax_aload_n tX5_valueOf_84, ax_getR tX5_valueOf_85, ax_iload tX5_valueOf_88, ax_iconst tX5_valueOf_90, ax_isub tX5_valueOf_91, ax_iaload tX5_valueOf_92, ax_aload_n tX5_valueOf_93, ax_getR tX5_valueOf_94, ax_iload tX5_valueOf_97, ax_iaload tX5_valueOf_99, ax_callS3 tX5_valueOf_100, ax_iastore tX5_valueOf_103, ax_iinc tX5_valueOf_104, ax_goto tX5_valueOf_107, ax_aload_n tX5_valueOf_110, ax_getR tX5_valueOf_111, ax_iconst tX5_valueOf_114, ax_iaload tX5_valueOf_115, ax_iretI tX5_valueOf_116, f_26, f_31, f_32, k0, r5, k5, n5, bI_t]
      simp (disch := omega) only [z0, o1, nI_add, pk_mul, nI_ltI, nI_leI, nI_eq, nI_clamp, vpn, pk_sub, Nat.add_sub_cancel, bI_0, bI_1, eq_self, true_or, or_true, or_false, false_or, true_and, and_true, false_and, and_false, and_self, or_self, forall_const, not_true_eq_false, not_false_eq_true, false_implies, implies_true, true_implies, ↓reduceIte, if_true, if_false, Nat.not_lt_zero, Nat.zero_le, Nat.le_refl, Nat.lt_irrefl, ne_eq, reduceCtorEq, Bool.false_eq_true]
      refine ⟨fun c => absurd c (by omega), fun _ => ?_⟩
      refine x_valueOfOperand (zp := zp) (E := E) (e := e) (f := f) hp ho ct hdn hn ?_
      generalize (if 17 ≤ cT q then nI (cT q - 17) else knP now pg dy fo th (cT q - 4)) = u at K ⊢
      refine gAx (cut := [(6, [0, 2, 3, 4, 5, 6])]) okX5_valueOf 60 ?_
      simp only [axC_nil, axC_hit, axC_def, cutAt, lvLive, Option.isSome_none, Option.isSome_some, catS, lvGet, lvIns, lvSet1, lvSet2, gLit_0, gLit_1, lv_args, fv0, fv1, fv2, fv3, isI_s, isL_s, isRf_s, isRf_n, gtI_s, gtL_s, gtV_s, gFilter_nil, gFilter_cons, gL1, gL2, gL3, gL4, gL5, va_rf_s, va_rf_n, hK_sI, hK_sR, hK_sA, hK_sJ, hK_sO, hI_sI, hI_sR, hI_sA, hI_sJ, hI_sO, hR_sI, hR_sR, hR_sA, hR_sJ, hR_sO, hN_sI, hN_sR, hN_sA, hN_sJ, hN_sO, hA_sI, hA_sR, hA_sA, hA_sJ, hA_sO, hJ_sI, hJ_sR, hJ_sA, hJ_sJ, hJ_sO, hO_sI, hO_sR, hO_sA, hO_sJ, hO_sO, up3_eq, up2_eq, List.map_cons, List.map_nil, List.sum_cons, List.sum_nil, List.nil_append, List.cons_append, Option.toList_some, Option.toList_none, true_and, and_true, if_true, if_false, and_self, true_or, or_true, or_false, false_or, false_and, and_false, not_true_eq_false, not_false_eq_true, forall_const, reduceCtorEq, implies_true, List.contains_cons, List.contains_nil, Bool.or_false, Bool.false_or, Bool.or_true, Bool.true_or, Bool.and_true, Bool.true_and, Bool.and_false, Bool.false_and, Bool.not_true, Bool.not_false, BEq.rfl, Bool.false_eq_true, Bool.true_eq_false, eq_self, ↓reduceIte, Nat.reduceAdd, Nat.reduceEqDiff, Nat.reduceBEq, Nat.reduceLT, Nat.reduceLeDiff, Nat.reduceSub, Nat.reduceMul, Nat.reduceBNe, List.append_nil, Nat.zero_le, Nat.zero_add, Nat.zero_ne_one, Nat.one_ne_zero, false_implies, true_implies, not_false_eq_true, ne_eq, upd_e, updL_e, bI_zo, nI0z, nI1o, nI1z, nI0o, nI0q, nI1q, nm1_lt, nm1_ge, ax_iconst tX5_valueOf_0, ax_istore tX5_valueOf_1, ax_iload_n tX5_valueOf_3, ax_istore tX5_valueOf_4, ax_iload tX5_valueOf_6, ax_iload_n tX5_valueOf_8, ax_icmp_ge tX5_valueOf_9, ax_iload tX5_valueOf_12, ax_sipush tX5_valueOf_14, ax_icmp_ge tX5_valueOf_17, ax_aload_n tX5_valueOf_20, ax_getR tX5_valueOf_21, ax_iload tX5_valueOf_24, ax_iaload tX5_valueOf_26, ax_istore tX5_valueOf_27, ax_iload tX5_valueOf_29, ax_callS1 tX5_valueOf_31, ax_if_eq tX5_valueOf_34, ax_iload tX5_valueOf_37, ax_bipush tX5_valueOf_39, ax_icmp_ge tX5_valueOf_41, ax_aload_n tX5_valueOf_44, ax_getR tX5_valueOf_45, ax_iload tX5_valueOf_48, ax_iload tX5_valueOf_50, ax_aload_n tX5_valueOf_52, ax_iload tX5_valueOf_53, ax_callS3 tX5_valueOf_55, ax_iastore tX5_valueOf_58, ax_iinc tX5_valueOf_59, ax_goto tX5_valueOf_62, ax_iload tX5_valueOf_65, ax_iconst tX5_valueOf_67, ax_icmp_lt tX5_valueOf_68, ax_iinc tX5_valueOf_71, ax_aload_n tX5_valueOf_74, ax_getR tX5_valueOf_75, ax_iload tX5_valueOf_78, ax_iconst tX5_valueOf_80, ax_isub tX5_valueOf_81, ax_iload tX5_valueOf_82, ax_aload_n tX5_valueOf_84, ax_getR tX5_valueOf_85, ax_iload tX5_valueOf_88, ax_iconst tX5_valueOf_90, ax_isub tX5_valueOf_91, ax_iaload tX5_valueOf_92, ax_aload_n tX5_valueOf_93, ax_getR tX5_valueOf_94, ax_iload tX5_valueOf_97, ax_iaload tX5_valueOf_99, ax_callS3 tX5_valueOf_100, ax_iastore tX5_valueOf_103, ax_iinc tX5_valueOf_104, ax_goto tX5_valueOf_107, ax_aload_n tX5_valueOf_110, ax_getR tX5_valueOf_111, ax_iconst tX5_valueOf_114, ax_iaload tX5_valueOf_115, ax_iretI tX5_valueOf_116, f_26, f_31, f_32, k5, n5]
      simp (disch := omega) only [z0, o1, nI_add, pk_mul, nI_ltI, nI_leI, nI_eq, nI_clamp, vpn, pk_sub, Nat.add_sub_cancel, bI_0, bI_1, eq_self, true_or, or_true, or_false, false_or, true_and, and_true, false_and, and_false, and_self, or_self, forall_const, not_true_eq_false, not_false_eq_true, false_implies, implies_true, true_implies, ↓reduceIte, if_true, if_false, Nat.not_lt_zero, Nat.zero_le, Nat.le_refl, Nat.lt_irrefl, ne_eq, reduceCtorEq, Bool.false_eq_true]
      exact ⟨by omega, K⟩
    · have ho : ¬ isOpd (cT q) := by
        obtain ⟨g1, g2, g3, g4, g5⟩ := gq
        unfold cT isOpd
        repeat' split
        all_goals omega
      rw [if_neg (by omega), if_neg (by omega)] at he
      rw [decide_eq_false ho]
      match st, he, hs, hP with
      | [], he, _, _ => cases he
      | [_], he, _, _ => cases he
      | y :: x :: t, he, hs, hP =>
        simp only [List.length_cons] at hs
        obtain ⟨p1, p2, p3⟩ := hP
        simp only [List.length_cons] at p1 p2
        have K := push _ t F he p3 (by omega)
        have eq0 : q = (q.1, 0) := by
          obtain ⟨g1, g2, g3, g4, g5⟩ := gq
          have := g5 (by omega)
          rw [← this]
        refine gAx (cut := []) okX5_valueOf 60 ?_
        simp only [axC_nil, axC_hit, axC_def, cutAt, lvLive, Option.isSome_none, Option.isSome_some, catS, lvGet, lvIns, lvSet1, lvSet2, gLit_0, gLit_1, lv_args, fv0, fv1, fv2, fv3, isI_s, isL_s, isRf_s, isRf_n, gtI_s, gtL_s, gtV_s, gFilter_nil, gFilter_cons, gL1, gL2, gL3, gL4, gL5, va_rf_s, va_rf_n, hK_sI, hK_sR, hK_sA, hK_sJ, hK_sO, hI_sI, hI_sR, hI_sA, hI_sJ, hI_sO, hR_sI, hR_sR, hR_sA, hR_sJ, hR_sO, hN_sI, hN_sR, hN_sA, hN_sJ, hN_sO, hA_sI, hA_sR, hA_sA, hA_sJ, hA_sO, hJ_sI, hJ_sR, hJ_sA, hJ_sJ, hJ_sO, hO_sI, hO_sR, hO_sA, hO_sJ, hO_sO, up3_eq, up2_eq, List.map_cons, List.map_nil, List.sum_cons, List.sum_nil, List.nil_append, List.cons_append, Option.toList_some, Option.toList_none, true_and, and_true, if_true, if_false, and_self, true_or, or_true, or_false, false_or, false_and, and_false, not_true_eq_false, not_false_eq_true, forall_const, reduceCtorEq, implies_true, List.contains_cons, List.contains_nil, Bool.or_false, Bool.false_or, Bool.or_true, Bool.true_or, Bool.and_true, Bool.true_and, Bool.and_false, Bool.false_and, Bool.not_true, Bool.not_false, BEq.rfl, Bool.false_eq_true, Bool.true_eq_false, eq_self, ↓reduceIte, Nat.reduceAdd, Nat.reduceEqDiff, Nat.reduceBEq, Nat.reduceLT, Nat.reduceLeDiff, Nat.reduceSub, Nat.reduceMul, Nat.reduceBNe, List.append_nil, Nat.zero_le, Nat.zero_add, Nat.zero_ne_one, Nat.one_ne_zero, false_implies, true_implies, not_false_eq_true, ne_eq, upd_e, updL_e, bI_zo, nI0z, nI1o, nI1z, nI0o, nI0q, nI1q, nm1_lt, nm1_ge, ax_iconst tX5_valueOf_0, ax_istore tX5_valueOf_1, ax_iload_n tX5_valueOf_3, ax_istore tX5_valueOf_4, ax_iload tX5_valueOf_6, ax_iload_n tX5_valueOf_8, ax_icmp_ge tX5_valueOf_9, ax_iload tX5_valueOf_12, ax_sipush tX5_valueOf_14, ax_icmp_ge tX5_valueOf_17, ax_aload_n tX5_valueOf_20, ax_getR tX5_valueOf_21, ax_iload tX5_valueOf_24, ax_iaload tX5_valueOf_26, ax_istore tX5_valueOf_27, ax_iload tX5_valueOf_29, ax_callS1 tX5_valueOf_31, ax_if_eq tX5_valueOf_34, ax_iload tX5_valueOf_37, ax_bipush tX5_valueOf_39, ax_icmp_ge tX5_valueOf_41, ax_aload_n tX5_valueOf_44, ax_getR tX5_valueOf_45, ax_iload tX5_valueOf_48, ax_iload tX5_valueOf_50, ax_aload_n tX5_valueOf_52, ax_iload tX5_valueOf_53, ax_callS3 tX5_valueOf_55, ax_iastore tX5_valueOf_58, ax_iinc tX5_valueOf_59, ax_goto tX5_valueOf_62, ax_iload tX5_valueOf_65, ax_iconst tX5_valueOf_67, ax_icmp_lt tX5_valueOf_68, ax_iinc tX5_valueOf_71, ax_aload_n tX5_valueOf_74, ax_getR tX5_valueOf_75, ax_iload tX5_valueOf_78, ax_iconst tX5_valueOf_80, ax_isub tX5_valueOf_81, ax_iload tX5_valueOf_82, ax_aload_n tX5_valueOf_84, ax_getR tX5_valueOf_85, ax_iload tX5_valueOf_88, ax_iconst tX5_valueOf_90, ax_isub tX5_valueOf_91, ax_iaload tX5_valueOf_92, ax_aload_n tX5_valueOf_93, ax_getR tX5_valueOf_94, ax_iload tX5_valueOf_97, ax_iaload tX5_valueOf_99, ax_callS3 tX5_valueOf_100, ax_iastore tX5_valueOf_103, ax_iinc tX5_valueOf_104, ax_goto tX5_valueOf_107, ax_aload_n tX5_valueOf_110, ax_getR tX5_valueOf_111, ax_iconst tX5_valueOf_114, ax_iaload tX5_valueOf_115, ax_iretI tX5_valueOf_116, f_26, f_31, f_32, k0, r5, k5, n5, bI_f, List.length_cons, nI_m1]
        simp (disch := omega) only [z0, o1, nI_add, pk_mul, nI_ltI, nI_leI, nI_eq, nI_clamp, vpn, pk_sub, Nat.add_sub_cancel, bI_0, bI_1, eq_self, true_or, or_true, or_false, false_or, true_and, and_true, false_and, and_false, and_self, or_self, forall_const, not_true_eq_false, not_false_eq_true, false_implies, implies_true, true_implies, ↓reduceIte, if_true, if_false, Nat.not_lt_zero, Nat.zero_le, Nat.le_refl, Nat.lt_irrefl, ne_eq, reduceCtorEq, Bool.false_eq_true]
        refine ⟨fun c => absurd c (by omega), fun _ => ⟨by omega, by omega, ?_⟩⟩
        rw [p1, p2, eq0]
        refine x_join (by have := gq.1; omega) gq.2.1 ?_
        refine gAx (cut := [(6, [0, 2, 3, 4, 5, 6])]) okX5_valueOf 60 ?_
        simp only [axC_nil, axC_hit, axC_def, cutAt, lvLive, Option.isSome_none, Option.isSome_some, catS, lvGet, lvIns, lvSet1, lvSet2, gLit_0, gLit_1, lv_args, fv0, fv1, fv2, fv3, isI_s, isL_s, isRf_s, isRf_n, gtI_s, gtL_s, gtV_s, gFilter_nil, gFilter_cons, gL1, gL2, gL3, gL4, gL5, va_rf_s, va_rf_n, hK_sI, hK_sR, hK_sA, hK_sJ, hK_sO, hI_sI, hI_sR, hI_sA, hI_sJ, hI_sO, hR_sI, hR_sR, hR_sA, hR_sJ, hR_sO, hN_sI, hN_sR, hN_sA, hN_sJ, hN_sO, hA_sI, hA_sR, hA_sA, hA_sJ, hA_sO, hJ_sI, hJ_sR, hJ_sA, hJ_sJ, hJ_sO, hO_sI, hO_sR, hO_sA, hO_sJ, hO_sO, up3_eq, up2_eq, List.map_cons, List.map_nil, List.sum_cons, List.sum_nil, List.nil_append, List.cons_append, Option.toList_some, Option.toList_none, true_and, and_true, if_true, if_false, and_self, true_or, or_true, or_false, false_or, false_and, and_false, not_true_eq_false, not_false_eq_true, forall_const, reduceCtorEq, implies_true, List.contains_cons, List.contains_nil, Bool.or_false, Bool.false_or, Bool.or_true, Bool.true_or, Bool.and_true, Bool.true_and, Bool.and_false, Bool.false_and, Bool.not_true, Bool.not_false, BEq.rfl, Bool.false_eq_true, Bool.true_eq_false, eq_self, ↓reduceIte, Nat.reduceAdd, Nat.reduceEqDiff, Nat.reduceBEq, Nat.reduceLT, Nat.reduceLeDiff, Nat.reduceSub, Nat.reduceMul, Nat.reduceBNe, List.append_nil, Nat.zero_le, Nat.zero_add, Nat.zero_ne_one, Nat.one_ne_zero, false_implies, true_implies, not_false_eq_true, ne_eq, upd_e, updL_e, bI_zo, nI0z, nI1o, nI1z, nI0o, nI0q, nI1q, nm1_lt, nm1_ge, ax_iconst tX5_valueOf_0, ax_istore tX5_valueOf_1, ax_iload_n tX5_valueOf_3, ax_istore tX5_valueOf_4, ax_iload tX5_valueOf_6, ax_iload_n tX5_valueOf_8, ax_icmp_ge tX5_valueOf_9, ax_iload tX5_valueOf_12, ax_sipush tX5_valueOf_14, ax_icmp_ge tX5_valueOf_17, ax_aload_n tX5_valueOf_20, ax_getR tX5_valueOf_21, ax_iload tX5_valueOf_24, ax_iaload tX5_valueOf_26, ax_istore tX5_valueOf_27, ax_iload tX5_valueOf_29, ax_callS1 tX5_valueOf_31, ax_if_eq tX5_valueOf_34, ax_iload tX5_valueOf_37, ax_bipush tX5_valueOf_39, ax_icmp_ge tX5_valueOf_41, ax_aload_n tX5_valueOf_44, ax_getR tX5_valueOf_45, ax_iload tX5_valueOf_48, ax_iload tX5_valueOf_50, ax_aload_n tX5_valueOf_52, ax_iload tX5_valueOf_53, ax_callS3 tX5_valueOf_55, ax_iastore tX5_valueOf_58, ax_iinc tX5_valueOf_59, ax_goto tX5_valueOf_62, ax_iload tX5_valueOf_65, ax_iconst tX5_valueOf_67, ax_icmp_lt tX5_valueOf_68, ax_iinc tX5_valueOf_71, ax_aload_n tX5_valueOf_74, ax_getR tX5_valueOf_75, ax_iload tX5_valueOf_78, ax_iconst tX5_valueOf_80, ax_isub tX5_valueOf_81, ax_iload tX5_valueOf_82, ax_aload_n tX5_valueOf_84, ax_getR tX5_valueOf_85, ax_iload tX5_valueOf_88, ax_iconst tX5_valueOf_90, ax_isub tX5_valueOf_91, ax_iaload tX5_valueOf_92, ax_aload_n tX5_valueOf_93, ax_getR tX5_valueOf_94, ax_iload tX5_valueOf_97, ax_iaload tX5_valueOf_99, ax_callS3 tX5_valueOf_100, ax_iastore tX5_valueOf_103, ax_iinc tX5_valueOf_104, ax_goto tX5_valueOf_107, ax_aload_n tX5_valueOf_110, ax_getR tX5_valueOf_111, ax_iconst tX5_valueOf_114, ax_iaload tX5_valueOf_115, ax_iretI tX5_valueOf_116, f_26, f_31, f_32, k5, n5]
        simp (disch := omega) only [z0, o1, nI_add, pk_mul, nI_ltI, nI_leI, nI_eq, nI_clamp, vpn, pk_sub, Nat.add_sub_cancel, bI_0, bI_1, eq_self, true_or, or_true, or_false, false_or, true_and, and_true, false_and, and_false, and_self, or_self, forall_const, not_true_eq_false, not_false_eq_true, false_implies, implies_true, true_implies, ↓reduceIte, if_true, if_false, Nat.not_lt_zero, Nat.zero_le, Nat.le_refl, Nat.lt_irrefl, ne_eq, reduceCtorEq, Bool.false_eq_true]
        exact ⟨by omega, K⟩
set_option maxRecDepth 100000 in
set_option maxHeartbeats 1600000 in
theorem x_valueOf {E e pg dy fo th now b : Nat} {f zp : Nat → Nat} {cs : List (Nat × Nat)} (hr : RUO h z rl pd) (hd : RUD z) (hp : PAP E h zp e pg dy fo th f) (hdn : dy ≤ now) (hn : now < 2 ^ 31) (hen : b + cs.length ≤ 600) (hcs : ∀ k, k < cs.length → hA h 12 (z 3) (b + k) = cI (cs.getD k (0, 0))) (hg : GC 16 cs) (hq : ∀ F, Q (some (.int (evV (knP now pg dy fo th) cs))) (sA h 12 (z 5) F)) : gFn B mX5_valueOf (d + 3) 0 0 [.ref (z 0), .int (nI b), .int (nI (b + cs.length)), .ref (zp 0), .int (nI now)] h Q := by
  obtain ⟨v, ev⟩ := hg.2 16 (knP now pg dy fo th) [] (by simp)
  have ee := evL_ev _ _ _ _ _ ev
  have e2 : evV (knP now pg dy fo th) cs = v := by unfold evV; rw [ee]
  rw [e2] at hq
  have Lp := x_valueOf_loop (B := B) (d := d) hr hd hp hdn hn hen hq cs b [] (hA h 12 (z 5)) rfl hcs hg.1 ev trivial (by simp)
  rw [sA_id] at Lp
  refine gStartX (cut := [(6, [0, 2, 3, 4, 5, 6])]) pnX5_valueOf okX5_valueOf (Nat.le_of_ble_eq_true rfl) 60 ?_
  simp only [axC_nil, axC_hit, axC_def, cutAt, lvLive, Option.isSome_none, Option.isSome_some, catS, lvGet, lvIns, lvSet1, lvSet2, gLit_0, gLit_1, lv_args, fv0, fv1, fv2, fv3, isI_s, isL_s, isRf_s, isRf_n, gtI_s, gtL_s, gtV_s, gFilter_nil, gFilter_cons, gL1, gL2, gL3, gL4, gL5, va_rf_s, va_rf_n, hK_sI, hK_sR, hK_sA, hK_sJ, hK_sO, hI_sI, hI_sR, hI_sA, hI_sJ, hI_sO, hR_sI, hR_sR, hR_sA, hR_sJ, hR_sO, hN_sI, hN_sR, hN_sA, hN_sJ, hN_sO, hA_sI, hA_sR, hA_sA, hA_sJ, hA_sO, hJ_sI, hJ_sR, hJ_sA, hJ_sJ, hJ_sO, hO_sI, hO_sR, hO_sA, hO_sJ, hO_sO, up3_eq, up2_eq, List.map_cons, List.map_nil, List.sum_cons, List.sum_nil, List.nil_append, List.cons_append, Option.toList_some, Option.toList_none, true_and, and_true, if_true, if_false, and_self, true_or, or_true, or_false, false_or, false_and, and_false, not_true_eq_false, not_false_eq_true, forall_const, reduceCtorEq, implies_true, List.contains_cons, List.contains_nil, Bool.or_false, Bool.false_or, Bool.or_true, Bool.true_or, Bool.and_true, Bool.true_and, Bool.and_false, Bool.false_and, Bool.not_true, Bool.not_false, BEq.rfl, Bool.false_eq_true, Bool.true_eq_false, eq_self, ↓reduceIte, Nat.reduceAdd, Nat.reduceEqDiff, Nat.reduceBEq, Nat.reduceLT, Nat.reduceLeDiff, Nat.reduceSub, Nat.reduceMul, Nat.reduceBNe, List.append_nil, Nat.zero_le, Nat.zero_add, Nat.zero_ne_one, Nat.one_ne_zero, false_implies, true_implies, not_false_eq_true, ne_eq, upd_e, updL_e, bI_zo, nI0z, nI1o, nI1z, nI0o, nI0q, nI1q, nm1_lt, nm1_ge, ax_iconst tX5_valueOf_0, ax_istore tX5_valueOf_1, ax_iload_n tX5_valueOf_3, ax_istore tX5_valueOf_4, ax_iload tX5_valueOf_6, ax_iload_n tX5_valueOf_8, ax_icmp_ge tX5_valueOf_9, ax_iload tX5_valueOf_12, ax_sipush tX5_valueOf_14, ax_icmp_ge tX5_valueOf_17, ax_aload_n tX5_valueOf_20, ax_getR tX5_valueOf_21, ax_iload tX5_valueOf_24, ax_iaload tX5_valueOf_26, ax_istore tX5_valueOf_27, ax_iload tX5_valueOf_29, ax_callS1 tX5_valueOf_31, ax_if_eq tX5_valueOf_34, ax_iload tX5_valueOf_37, ax_bipush tX5_valueOf_39, ax_icmp_ge tX5_valueOf_41, ax_aload_n tX5_valueOf_44, ax_getR tX5_valueOf_45, ax_iload tX5_valueOf_48, ax_iload tX5_valueOf_50, ax_aload_n tX5_valueOf_52, ax_iload tX5_valueOf_53, ax_callS3 tX5_valueOf_55, ax_iastore tX5_valueOf_58, ax_iinc tX5_valueOf_59, ax_goto tX5_valueOf_62, ax_iload tX5_valueOf_65, ax_iconst tX5_valueOf_67, ax_icmp_lt tX5_valueOf_68, ax_iinc tX5_valueOf_71, ax_aload_n tX5_valueOf_74, ax_getR tX5_valueOf_75, ax_iload tX5_valueOf_78, ax_iconst tX5_valueOf_80, ax_isub tX5_valueOf_81, ax_iload tX5_valueOf_82, ax_aload_n tX5_valueOf_84, ax_getR tX5_valueOf_85, ax_iload tX5_valueOf_88, ax_iconst tX5_valueOf_90, ax_isub tX5_valueOf_91, ax_iaload tX5_valueOf_92, ax_aload_n tX5_valueOf_93, ax_getR tX5_valueOf_94, ax_iload tX5_valueOf_97, ax_iaload tX5_valueOf_99, ax_callS3 tX5_valueOf_100, ax_iastore tX5_valueOf_103, ax_iinc tX5_valueOf_104, ax_goto tX5_valueOf_107, ax_aload_n tX5_valueOf_110, ax_getR tX5_valueOf_111, ax_iconst tX5_valueOf_114, ax_iaload tX5_valueOf_115, ax_iretI tX5_valueOf_116, f_26, f_31, f_32]
  exact Lp
end CLSI
