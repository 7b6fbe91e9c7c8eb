/-! CONSTRUCTORS: a nest mate's; tape, rules -/
/-- what is known of nest mates' constructors -/
def gXn (B : gB) : Prop := ∀ (U : State) (H : Heap), B.2.2.2.2 U H → va_Nw (.methodLinkNest "PapersDesk" 50 (gY mX6_init) "PapersDesk") U ∧ va_Nw (.methodLinkNest "PapersDesk" 57 (gY mX5_init) "PapersDesk") U
section GCALLN
variable {B : gB} {m f : gM} {d d1 c n c1 n1 pc idx b : Nat} {lv : List (Nat × Value)} {As rest : List Value} {h : gHp} {Q : Option Value → gHp → Prop} {host : String}
theorem gG_callIN (hf : gIok f) (hdg : decode (gCd m) pc = .ok (.invokespecial idx, 3)) (hlk : ∀ (U : State) (H : Heap), B.2.2.2.2 U H → va_Nw (.methodLinkNest (gY m).cls idx (gY f) host) U) (hn : As.length = (gIx f).2.1) (hr : (rest.map fun v => v.category).sum ≤ 8) (hd : d1 + 1 ≤ d)
    (hFn : gFn B f d1 c1 n1 (.ref b :: As) h (fun v h' => gG B m d c n (pc + 3) lv (v.toList ++ rest) h' Q)) : gG B m d (c1 + c) (n1 + n) pc lv (As.reverse ++ .ref b :: rest) h Q := by
  intro p e s mi args below meth cd H locs cells slots ls C R S hl
  obtain ⟨hx, hcode, hml, hrr, hlo, hown, hnm, hts, ⟨hKK, hEE⟩, hbs, hEx⟩ := id C
  obtain ⟨⟨w1, w2, w3, w4, w5, w6, w7, w8⟩, w9, w10, w11⟩ := hf
  have hFn' := hFn hEx
  have hws : gWs f = Cond.code (gY f) (gCd f) (gL f) none :: lw_good := by unfold gWs; rw [w11]
  rw [w11] at w1
  refine gW_call (va_runIN (As := As) (rest := rest) (host := host) (n := (gIx f).2.1) (bytes := gCd f) (maxL := gL f) (index := idx) ⟨hx, hcode, hml, hown, hts⟩ hFn' ⟨va_cnB (bytes := gCd f) (maxL := gL f) _ hts (gGoodSub (fun w hw => ?_)) hws rfl rfl (hlk s s.heap hEE) (hts _ w2) ⟨w3, w4, w5⟩ ⟨hd, by simp only [gRm]; omega⟩, w10, hts _ w9⟩ ⟨gBlind hEx, fun U hU hW => ⟨rfl, by rw [hU]; exact R, by rw [hU]; exact gC_ex C S hW⟩⟩ rfl hn hl.1 rfl (lv_room hr) hdg ⟨by simp only [gRm]; omega, by simp only [gRm]; omega⟩) S ?_
  · rw [hws] at hw
    rcases List.mem_cons.mp hw with e | e
    · rw [e]; exact w1
    · exact e
  · intro v h' H1 locs1 hG R1 S1
    have K := hG p e s mi args below meth cd H1 locs1 (cells + c1) (slots + n1) ls C R1 S1 hl
    rw [Nat.add_assoc, Nat.add_assoc] at K
    exact K
end GCALLN
section INIA
variable {B : gB} {h : gHp} {d : Nat} {Q : Option Value → gHp → Prop}
set_option maxRecDepth 100000 in
set_option maxHeartbeats 3200000 in
theorem x_tape_init {x : Nat} (kx : hK h x = 8) (hq : ∀ z h', z 0 = x → (∀ i, i = 2 ∨ i = 3 ∨ i = 4 → hK h (z i) = 0) → (z 2 ≠ z 3 ∧ z 2 ≠ z 4 ∧ z 3 ≠ z 4) → (∀ (ow : Nat → gTag) T, ow x ∈ T → FRO ow T h h') → TAP h' z 0 (fun _ => 0) → Q none h') : gFn B mX6_init (d + 1) 3 1802 [.ref x] h Q := by
  refine gStartX (cut := []) pnX6_init okX6_init (Nat.le_of_ble_eq_true rfl) 60 ?_
  simp only [axC_nil, axC_hit, axC_def, cutAt, lvLive, Option.isSome_none, Option.isSome_some, catS, lvGet, lvIns, lvSet1, lvSet2, gLit_0, gLit_1, lv_args, fv0, fv1, fv2, fv3, isI_s, isL_s, isRf_s, isRf_n, gtI_s, gtL_s, gtV_s, gFilter_nil, gFilter_cons, gL1, gL2, gL3, gL4, gL5, va_rf_s, va_rf_n, hK_sI, hK_sR, hK_sA, hK_sJ, hK_sO, hI_sI, hI_sR, hI_sA, hI_sJ, hI_sO, hR_sI, hR_sR, hR_sA, hR_sJ, hR_sO, hN_sI, hN_sR, hN_sA, hN_sJ, hN_sO, hA_sI, hA_sR, hA_sA, hA_sJ, hA_sO, hJ_sI, hJ_sR, hJ_sA, hJ_sJ, hJ_sO, hO_sI, hO_sR, hO_sA, hO_sJ, hO_sO, up3_eq, up2_eq, List.map_cons, List.map_nil, List.sum_cons, List.sum_nil, List.nil_append, List.cons_append, Option.toList_some, Option.toList_none, true_and, and_true, if_true, if_false, and_self, true_or, or_true, or_false, false_or, false_and, and_false, not_true_eq_false, not_false_eq_true, forall_const, reduceCtorEq, implies_true, List.contains_cons, List.contains_nil, Bool.or_false, Bool.false_or, Bool.or_true, Bool.true_or, Bool.and_true, Bool.true_and, Bool.and_false, Bool.false_and, Bool.not_true, Bool.not_false, BEq.rfl, Bool.false_eq_true, Bool.true_eq_false, eq_self, ↓reduceIte, Nat.reduceAdd, Nat.reduceEqDiff, Nat.reduceBEq, Nat.reduceLT, Nat.reduceLeDiff, Nat.reduceSub, Nat.reduceMul, Nat.reduceBNe, List.append_nil, Nat.zero_le, Nat.zero_add, Nat.zero_ne_one, Nat.one_ne_zero, false_implies, true_implies, not_false_eq_true, ne_eq, upd_e, updL_e, bI_zo, nI0z, nI1o, nI1z, nI0o, nI0q, nI1q, nm1_lt, nm1_ge, ax_aload_n tX6_init_0, ax_obj tX6_init_1, ax_aload_n tX6_init_4, ax_sipush tX6_init_5, ax_newarray tX6_init_8, ax_putR tX6_init_10, ax_putN tX6_init_10, ax_aload_n tX6_init_13, ax_iconst tX6_init_14, ax_putI tX6_init_15, ax_aload_n tX6_init_18, ax_sipush tX6_init_19, ax_newarray tX6_init_22, ax_putR tX6_init_24, ax_putN tX6_init_24, ax_aload_n tX6_init_27, ax_sipush tX6_init_28, ax_newarray tX6_init_31, ax_putR tX6_init_33, ax_putN tX6_init_33, ax_vret tX6_init_36]
  refine gAx (cut := []) okX6_init 60 ?_
  simp only [axC_nil, axC_hit, axC_def, cutAt, lvLive, Option.isSome_none, Option.isSome_some, catS, lvGet, lvIns, lvSet1, lvSet2, gLit_0, gLit_1, lv_args, fv0, fv1, fv2, fv3, isI_s, isL_s, isRf_s, isRf_n, gtI_s, gtL_s, gtV_s, gFilter_nil, gFilter_cons, gL1, gL2, gL3, gL4, gL5, va_rf_s, va_rf_n, hK_sI, hK_sR, hK_sA, hK_sJ, hK_sO, hI_sI, hI_sR, hI_sA, hI_sJ, hI_sO, hR_sI, hR_sR, hR_sA, hR_sJ, hR_sO, hN_sI, hN_sR, hN_sA, hN_sJ, hN_sO, hA_sI, hA_sR, hA_sA, hA_sJ, hA_sO, hJ_sI, hJ_sR, hJ_sA, hJ_sJ, hJ_sO, hO_sI, hO_sR, hO_sA, hO_sJ, hO_sO, up3_eq, up2_eq, List.map_cons, List.map_nil, List.sum_cons, List.sum_nil, List.nil_append, List.cons_append, Option.toList_some, Option.toList_none, true_and, and_true, if_true, if_false, and_self, true_or, or_true, or_false, false_or, false_and, and_false, not_true_eq_false, not_false_eq_true, forall_const, reduceCtorEq, implies_true, List.contains_cons, List.contains_nil, Bool.or_false, Bool.false_or, Bool.or_true, Bool.true_or, Bool.and_true, Bool.true_and, Bool.and_false, Bool.false_and, Bool.not_true, Bool.not_false, BEq.rfl, Bool.false_eq_true, Bool.true_eq_false, eq_self, ↓reduceIte, Nat.reduceAdd, Nat.reduceEqDiff, Nat.reduceBEq, Nat.reduceLT, Nat.reduceLeDiff, Nat.reduceSub, Nat.reduceMul, Nat.reduceBNe, List.append_nil, Nat.zero_le, Nat.zero_add, Nat.zero_ne_one, Nat.one_ne_zero, false_implies, true_implies, not_false_eq_true, ne_eq, upd_e, updL_e, bI_zo, nI0z, nI1o, nI1z, nI0o, nI0q, nI1q, nm1_lt, nm1_ge, ax_aload_n tX6_init_0, ax_obj tX6_init_1, ax_aload_n tX6_init_4, ax_sipush tX6_init_5, ax_newarray tX6_init_8, ax_putR tX6_init_10, ax_putN tX6_init_10, ax_aload_n tX6_init_13, ax_iconst tX6_init_14, ax_putI tX6_init_15, ax_aload_n tX6_init_18, ax_sipush tX6_init_19, ax_newarray tX6_init_22, ax_putR tX6_init_24, ax_putN tX6_init_24, ax_aload_n tX6_init_27, ax_sipush tX6_init_28, ax_newarray tX6_init_31, ax_putR tX6_init_33, ax_putN tX6_init_33, ax_vret tX6_init_36]
  try simp (disch := omega) only [z0, o1, nI_add, pk_mul, nI_ltI, nI_leI, nI_eq, nI_clamp, vpn, pk_sub, Nat.add_sub_cancel, bI_0, bI_1, eq_self, true_or, or_true, or_false, false_or, true_and, and_true, false_and, and_false, and_self, or_self, forall_const, not_true_eq_false, not_false_eq_true, false_implies, implies_true, true_implies, ↓reduceIte, if_true, if_false, Nat.not_lt_zero, Nat.zero_le, Nat.le_refl, Nat.lt_irrefl, ne_eq, reduceCtorEq, Bool.false_eq_true]
  repeat (refine ⟨by omega, ?_⟩)
  intro e4 h4
  have x4 : x ≠ e4 := fun q => by rw [q] at kx; omega
  simp only [hK_nA, hK_sI, hK_sR, va_up_eq, x4, kx, if_false, true_and]
  repeat (refine ⟨by omega, ?_⟩)
  intro e2 h2
  have e24 : e2 ≠ e4 := fun q => by rw [if_pos q] at h2; omega
  rw [if_neg e24] at h2
  have x2 : x ≠ e2 := fun q => by rw [q] at kx; omega
  simp only [hK_nA, hK_sI, hK_sR, va_up_eq, x4, x2, kx, if_false, true_and]
  repeat (refine ⟨by omega, ?_⟩)
  intro e3 h3
  have e32 : e3 ≠ e2 := fun q => by rw [if_pos q] at h3; omega
  rw [if_neg e32] at h3
  have e34 : e3 ≠ e4 := fun q => by rw [if_pos q] at h3; omega
  rw [if_neg e34] at h3
  have x3 : x ≠ e3 := fun q => by rw [q] at kx; omega
  simp only [hK_nA, hK_sI, hK_sR, va_up_eq, x4, x2, x3, kx, if_false, true_and]
  have e42 : e4 ≠ e2 := fun q => e24 q.symm
  have e43 : e4 ≠ e3 := fun q => e34 q.symm
  have e23 : e2 ≠ e3 := fun q => e32 q.symm
  refine hq (fun k => if k = 4 then e4 else if k = 2 then e2 else if k = 3 then e3 else x) _ rfl (fun i hi => by rcases hi with rfl | rfl | rfl <;> assumption) ⟨e23, e24, e34⟩ (fun ow T hx => ?_) ?_
  · have g2 : ∀ h1 : gHp, hK h1 = hK (nA h 15 e4 600) → hK h1 e2 = 0 := fun h1 q => by rw [q, hK_nA, va_up_eq, if_neg e24]; exact h2
    have g3 : ∀ h1 : gHp, hK h1 = hK (nA (nA h 15 e4 600) 12 e2 601) → hK h1 e3 = 0 := fun h1 q => by rw [q, hK_nA, va_up_eq, if_neg e32, hK_nA, va_up_eq, if_neg e34]; exact h3
    exact (((((((FRO.rf h).nA h4).sR (Or.inl hx)).sI (Or.inl hx)).nA (g2 _ rfl)).sR (Or.inl hx)).nA (g3 _ rfl)).sR (Or.inl hx)
  · refine ⟨⟨?_, ?_, ?_, ?_, ?_, ?_, ?_, ?_, ?_, ?_, ?_⟩, by omega, fun k hk => by omega, fun k => by simp⟩
    all_goals (simp [hK_nA, hK_sI, hK_sR, va_up_eq, x4, x2, x3, kx, hR_sR, hR_sI, hR_nA, up3_eq, hN_nA, hN_sR, hN_sI, e24, e34, e32, e42, e43, e23, hI_sI, hI_sR, hI_nA])
set_option maxRecDepth 100000 in
set_option maxHeartbeats 3200000 in
theorem x_rules_init {x : Nat} (kx : hK h x = 7) (hq : ∀ z h', z 0 = x → (∀ i, i = 1 ∨ i = 2 ∨ i = 3 ∨ i = 5 → hK h (z i) = 0) → RUD z → (∀ (ow : Nat → gTag) T, ow x ∈ T → FRO ow T h h') → RUO h' z [] [] → Q none h') : gFn B mX5_init (d + 1) 4 648 [.ref x] h Q := by
  refine gStartX (cut := []) pnX5_init okX5_init (Nat.le_of_ble_eq_true rfl) 60 ?_
  simp only [axC_nil, axC_hit, axC_def, cutAt, lvLive, Option.isSome_none, Option.isSome_some, catS, lvGet, lvIns, lvSet1, lvSet2, gLit_0, gLit_1, lv_args, fv0, fv1, fv2, fv3, isI_s, isL_s, isRf_s, isRf_n, gtI_s, gtL_s, gtV_s, gFilter_nil, gFilter_cons, gL1, gL2, gL3, gL4, gL5, va_rf_s, va_rf_n, hK_sI, hK_sR, hK_sA, hK_sJ, hK_sO, hI_sI, hI_sR, hI_sA, hI_sJ, hI_sO, hR_sI, hR_sR, hR_sA, hR_sJ, hR_sO, hN_sI, hN_sR, hN_sA, hN_sJ, hN_sO, hA_sI, hA_sR, hA_sA, hA_sJ, hA_sO, hJ_sI, hJ_sR, hJ_sA, hJ_sJ, hJ_sO, hO_sI, hO_sR, hO_sA, hO_sJ, hO_sO, up3_eq, up2_eq, List.map_cons, List.map_nil, List.sum_cons, List.sum_nil, List.nil_append, List.cons_append, Option.toList_some, Option.toList_none, true_and, and_true, if_true, if_false, and_self, true_or, or_true, or_false, false_or, false_and, and_false, not_true_eq_false, not_false_eq_true, forall_const, reduceCtorEq, implies_true, List.contains_cons, List.contains_nil, Bool.or_false, Bool.false_or, Bool.or_true, Bool.true_or, Bool.and_true, Bool.true_and, Bool.and_false, Bool.false_and, Bool.not_true, Bool.not_false, BEq.rfl, Bool.false_eq_true, Bool.true_eq_false, eq_self, ↓reduceIte, Nat.reduceAdd, Nat.reduceEqDiff, Nat.reduceBEq, Nat.reduceLT, Nat.reduceLeDiff, Nat.reduceSub, Nat.reduceMul, Nat.reduceBNe, List.append_nil, Nat.zero_le, Nat.zero_add, Nat.zero_ne_one, Nat.one_ne_zero, false_implies, true_implies, not_false_eq_true, ne_eq, upd_e, updL_e, bI_zo, nI0z, nI1o, nI1z, nI0o, nI0q, nI1q, nm1_lt, nm1_ge, ax_aload_n tX5_init_0, ax_obj tX5_init_1, ax_aload_n tX5_init_4, ax_iconst tX5_init_5, ax_putI tX5_init_6, ax_aload_n tX5_init_9, ax_bipush tX5_init_10, ax_newarray tX5_init_12, ax_putR tX5_init_14, ax_putN tX5_init_14, ax_aload_n tX5_init_17, ax_bipush tX5_init_18, ax_newarray tX5_init_20, ax_putR tX5_init_22, ax_putN tX5_init_22, ax_aload_n tX5_init_25, ax_sipush tX5_init_26, ax_newarray tX5_init_29, ax_putR tX5_init_31, ax_putN tX5_init_31, ax_aload_n tX5_init_34, ax_iconst tX5_init_35, ax_putI tX5_init_36, ax_aload_n tX5_init_39, ax_bipush tX5_init_40, ax_newarray tX5_init_42, ax_putR tX5_init_44, ax_putN tX5_init_44, ax_vret tX5_init_47]
  refine gAx (cut := []) okX5_init 60 ?_
  simp only [axC_nil, axC_hit, axC_def, cutAt, lvLive, Option.isSome_none, Option.isSome_some, catS, lvGet, lvIns, lvSet1, lvSet2, gLit_0, gLit_1, lv_args, fv0, fv1, fv2, fv3, isI_s, isL_s, isRf_s, isRf_n, gtI_s, gtL_s, gtV_s, gFilter_nil, gFilter_cons, gL1, gL2, gL3, gL4, gL5, va_rf_s, va_rf_n, hK_sI, hK_sR, hK_sA, hK_sJ, hK_sO, hI_sI, hI_sR, hI_sA, hI_sJ, hI_sO, hR_sI, hR_sR, hR_sA, hR_sJ, hR_sO, hN_sI, hN_sR, hN_sA, hN_sJ, hN_sO, hA_sI, hA_sR, hA_sA, hA_sJ, hA_sO, hJ_sI, hJ_sR, hJ_sA, hJ_sJ, hJ_sO, hO_sI, hO_sR, hO_sA, hO_sJ, hO_sO, up3_eq, up2_eq, List.map_cons, List.map_nil, List.sum_cons, List.sum_nil, List.nil_append, List.cons_append, Option.toList_some, Option.toList_none, true_and, and_true, if_true, if_false, and_self, true_or, or_true, or_false, false_or, false_and, and_false, not_true_eq_false, not_false_eq_true, forall_const, reduceCtorEq, implies_true, List.contains_cons, List.contains_nil, Bool.or_false, Bool.false_or, Bool.or_true, Bool.true_or, Bool.and_true, Bool.true_and, Bool.and_false, Bool.false_and, Bool.not_true, Bool.not_false, BEq.rfl, Bool.false_eq_true, Bool.true_eq_false, eq_self, ↓reduceIte, Nat.reduceAdd, Nat.reduceEqDiff, Nat.reduceBEq, Nat.reduceLT, Nat.reduceLeDiff, Nat.reduceSub, Nat.reduceMul, Nat.reduceBNe, List.append_nil, Nat.zero_le, Nat.zero_add, Nat.zero_ne_one, Nat.one_ne_zero, false_implies, true_implies, not_false_eq_true, ne_eq, upd_e, updL_e, bI_zo, nI0z, nI1o, nI1z, nI0o, nI0q, nI1q, nm1_lt, nm1_ge, ax_aload_n tX5_init_0, ax_obj tX5_init_1, ax_aload_n tX5_init_4, ax_iconst tX5_init_5, ax_putI tX5_init_6, ax_aload_n tX5_init_9, ax_bipush tX5_init_10, ax_newarray tX5_init_12, ax_putR tX5_init_14, ax_putN tX5_init_14, ax_aload_n tX5_init_17, ax_bipush tX5_init_18, ax_newarray tX5_init_20, ax_putR tX5_init_22, ax_putN tX5_init_22, ax_aload_n tX5_init_25, ax_sipush tX5_init_26, ax_newarray tX5_init_29, ax_putR tX5_init_31, ax_putN tX5_init_31, ax_aload_n tX5_init_34, ax_iconst tX5_init_35, ax_putI tX5_init_36, ax_aload_n tX5_init_39, ax_bipush tX5_init_40, ax_newarray tX5_init_42, ax_putR tX5_init_44, ax_putN tX5_init_44, ax_vret tX5_init_47, kx]
  try simp (disch := omega) only [z0, o1, nI_add, pk_mul, nI_ltI, nI_leI, nI_eq, nI_clamp, vpn, pk_sub, Nat.add_sub_cancel, bI_0, bI_1, eq_self, true_or, or_true, or_false, false_or, true_and, and_true, false_and, and_false, and_self, or_self, forall_const, not_true_eq_false, not_false_eq_true, false_implies, implies_true, true_implies, ↓reduceIte, if_true, if_false, Nat.not_lt_zero, Nat.zero_le, Nat.le_refl, Nat.lt_irrefl, ne_eq, reduceCtorEq, Bool.false_eq_true]
  repeat (refine ⟨by omega, ?_⟩)
  intro e1 h1
  have x1 : x ≠ e1 := fun q => by rw [q] at kx; omega
  simp only [hK_nA, hK_sI, hK_sR, va_up_eq, x1, kx, if_false, true_and]
  repeat (refine ⟨by omega, ?_⟩)
  intro e2 h2
  have e21 : e2 ≠ e1 := fun q => by rw [if_pos q] at h2; omega
  rw [if_neg e21] at h2
  have x2 : x ≠ e2 := fun q => by rw [q] at kx; omega
  simp only [hK_nA, hK_sI, hK_sR, va_up_eq, x1, x2, kx, if_false, true_and]
  repeat (refine ⟨by omega, ?_⟩)
  intro e3 h3
  have e32 : e3 ≠ e2 := fun q => by rw [if_pos q] at h3; omega
  rw [if_neg e32] at h3
  have e31 : e3 ≠ e1 := fun q => by rw [if_pos q] at h3; omega
  rw [if_neg e31] at h3
  have x3 : x ≠ e3 := fun q => by rw [q] at kx; omega
  simp only [hK_nA, hK_sI, hK_sR, va_up_eq, x1, x2, x3, kx, if_false, true_and]
  repeat (refine ⟨by omega, ?_⟩)
  intro e5 h5
  have e53 : e5 ≠ e3 := fun q => by rw [if_pos q] at h5; omega
  rw [if_neg e53] at h5
  have e52 : e5 ≠ e2 := fun q => by rw [if_pos q] at h5; omega
  rw [if_neg e52] at h5
  have e51 : e5 ≠ e1 := fun q => by rw [if_pos q] at h5; omega
  rw [if_neg e51] at h5
  have x5 : x ≠ e5 := fun q => by rw [q] at kx; omega
  simp only [hK_nA, hK_sI, hK_sR, va_up_eq, x1, x2, x3, x5, kx, if_false, true_and]
  have e12 : e1 ≠ e2 := fun q => e21 q.symm
  have e13 : e1 ≠ e3 := fun q => e31 q.symm
  have e23 : e2 ≠ e3 := fun q => e32 q.symm
  have e15 : e1 ≠ e5 := fun q => e51 q.symm
  have e25 : e2 ≠ e5 := fun q => e52 q.symm
  have e35 : e3 ≠ e5 := fun q => e53 q.symm
  refine hq (fun k => if k = 1 then e1 else if k = 2 then e2 else if k = 3 then e3 else if k = 5 then e5 else x) _ rfl (fun i hi => by rcases hi with rfl | rfl | rfl | rfl <;> assumption) (fun i j hi hj => ?_) (fun ow T hx => ?_) ?_
  · rcases hi with rfl | rfl | rfl | rfl <;> rcases hj with rfl | rfl | rfl | rfl <;> simp [e21, e32, e31, e53, e52, e51, e12, e13, e23, e15, e25, e35]
  · have g2 : ∀ h1 : gHp, hK h1 = hK (nA h 12 e1 16) → hK h1 e2 = 0 := fun h1 q => by rw [q, hK_nA, va_up_eq, if_neg e21]; exact h2
    have g3 : ∀ h1 : gHp, hK h1 = hK (nA (nA h 12 e1 16) 12 e2 16) → hK h1 e3 = 0 := fun h1 q => by rw [q, hK_nA, va_up_eq, if_neg e32, hK_nA, va_up_eq, if_neg e31]; exact h3
    have g5 : ∀ h1 : gHp, hK h1 = hK (nA (nA (nA h 12 e1 16) 12 e2 16) 12 e3 600) → hK h1 e5 = 0 := fun h1 q => by rw [q, hK_nA, va_up_eq, if_neg e53, hK_nA, va_up_eq, if_neg e52, hK_nA, va_up_eq, if_neg e51]; exact h5
    exact ((((((((((FRO.rf h).sI (Or.inl hx)).nA (show hK h e1 = 0 from h1)).sR (Or.inl hx)).nA (g2 _ rfl)).sR (Or.inl hx)).nA (g3 _ rfl)).sR (Or.inl hx)).sI (Or.inl hx)).nA (g5 _ rfl)).sR (Or.inl hx)
  · refine ⟨⟨?_, ?_, ?_, ?_, ?_, ?_, ?_, ?_, ?_, ?_, ?_, ?_, ?_, ?_, ?_⟩, by simp, by simp [cdG], fun k hk => by simp [cdG] at hk, fun i hi => by simp at hi⟩
    all_goals (simp [hK_nA, hK_sI, hK_sR, va_up_eq, x1, x2, x3, x5, kx, hR_sR, hR_sI, hR_nA, up3_eq, hN_nA, hN_sR, hN_sI, e21, e32, e31, e53, e52, e51, e12, e13, e23, e15, e25, e35, hI_sI, hI_sR, hI_nA, cdG])
end INIA
