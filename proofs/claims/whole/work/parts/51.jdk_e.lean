/-! THE JDK: strings -/
def sTx : List String := ["ground", "when", "and", "age", "day", "folder", "pages", "thirds"]
def sIx : List Nat := [59, 65, 67, 69, 71, 73, 75, 77]
def sLen : List Nat := [6, 4, 3, 3, 3, 6, 5, 6]
def sBy : List (List Nat) := [[103, 114, 111, 117, 110, 100], [119, 104, 101, 110], [97, 110, 100], [97, 103, 101], [100, 97, 121], [102, 111, 108, 100, 101, 114], [112, 97, 103, 101, 115], [116, 104, 105, 114, 100, 115]]
def sByt : List (List Int32) := sBy.map (fun l => l.map nI)
/-- what is known of the words' strings -/
def gXs (B : gB) (sK sV : Nat → Nat) : Prop := ∀ (U : State) (H : Heap), B.2.2.2.2 U H → va_Z "java/lang/String" "COMPACT_STRINGS" "Z" (.int 1) (gA B) U H ∧ va_Zq "jdk/internal/util/Preconditions" "SIOOBE_FORMATTER" "Ljava/util/function/BiFunction;" (gA B) U H ∧ vk_S 8 sLen sByt sK sV (gA B) U H ∧ ∀ i, i < 8 → vk_R "PapersDesk$Tape" (sIx.getD i 0) (sTx.getD i "") (sK i) U
theorem w_scs : Cond.fieldLink "java/lang/String" 38 "java/lang/String" "COMPACT_STRINGS" "Z" ∈ lw_good := gMem (i := 581) rfl rfl
theorem w_ssf : Cond.fieldLink "java/lang/String" 1053 "jdk/internal/util/Preconditions" "SIOOBE_FORMATTER" "Ljava/util/function/BiFunction;" ∈ lw_good := gMem (i := 597) rfl rfl
set_option maxRecDepth 100000 in
theorem w_sva : Cond.fieldLink "java/lang/String" 9 "java/lang/String" "value" "[B" ∈ lw_good := gMem (i := 1530) rfl rfl
set_option maxRecDepth 100000 in
theorem w_sco : Cond.fieldLink "java/lang/String" 15 "java/lang/String" "coder" "B" ∈ lw_good := gMem (i := 1531) rfl rfl
theorem sBy_lt : ∀ i : Fin 8, ∀ j : Fin 6, (sBy.getD i.val []).getD j.val 0 ≤ 122 ∧ sLen.getD i.val 0 ≤ 6 := by decide +kernel
theorem sByt_e {i j : Nat} (hi : i < 8) (hj : j < sLen.getD i 0) : (sByt.getD i []).getD j 0 = nI ((sBy.getD i []).getD j 0) := by
  have : ∀ i : Fin 8, ∀ j : Fin 6, j.val < sLen.getD i.val 0 → (sByt.getD i.val []).getD j.val 0 = nI ((sBy.getD i.val []).getD j.val 0) := by decide +kernel
  have h6 := (sBy_lt ⟨i, hi⟩ ⟨0, by omega⟩).2
  exact this ⟨i, hi⟩ ⟨j, by simp only at h6; omega⟩ hj
section GSTR
variable {B : gB} {m f : gM} {d d1 c n pc idx i : Nat} {lv : List (Nat × Value)} {st As rest : List Value} {h : gHp} {Q : Option Value → gHp → Prop} {sK sV : Nat → Nat}
theorem gG_ldcS {ix : Nat} (hX : gXs B sK sV) (hcls : (gY m).cls = "PapersDesk$Tape") (hi : i < 8) (hix : sIx.getD i 0 = ix) (hdg : decode (gCd m) pc = .ok (.ldc ix, 2)) (kk : gG B m d c n (pc + 2) lv (.ref (sK i) :: st) h Q) : gG B m d c n pc lv st h Q := by
  intro p e s mi args below meth cd H locs cells slots ls C R S hl
  obtain ⟨hx, hcode, hml, hr, hlo, hown, hnm, hts, ⟨hKK, hEE⟩, hbs, hEx⟩ := id C
  rw [hcls] at hown
  have z := (hX s s.heap hEE).2.2.2 i hi
  rw [hix] at z
  refine va_ldcS hx hcode hown z hdg ?_
  exact kk p e s mi args below meth cd H locs cells slots ls C R S hl
theorem gG_getsC (hX : gXs B sK sV) (hcls : (gY m).cls = "java/lang/String") (hdg : decode (gCd m) pc = .ok (.getstatic 38, 3)) (kk : gG B m d c n (pc + 3) lv (.int (nI 1) :: st) h Q) : gG B m d c n pc lv st h Q := by
  intro p e s mi args below meth cd H locs cells slots ls C R S hl
  obtain ⟨hx, hcode, hml, hr, hlo, hown, hnm, hts, ⟨hKK, hEE⟩, hbs, hEx⟩ := id C
  rw [hcls] at hown
  refine va_gets hx hcode (hX s s.heap hEE).1 S hown (hts _ w_scs) (fun _ h => h) hdg ?_
  exact kk p e s mi args below meth cd H locs cells slots ls C R S hl
theorem gG_getsF (hX : gXs B sK sV) (hcls : (gY m).cls = "java/lang/String") (hdg : decode (gCd m) pc = .ok (.getstatic 1053, 3)) (kn : gG B m d c n (pc + 3) lv (.null :: st) h Q) (kk : ∀ t, gG B m d c n (pc + 3) lv (.ref t :: st) h Q) : gG B m d c n pc lv st h Q := by
  intro p e s mi args below meth cd H locs cells slots ls C R S hl
  obtain ⟨hx, hcode, hml, hr, hlo, hown, hnm, hts, ⟨hKK, hEE⟩, hbs, hEx⟩ := id C
  rw [hcls] at hown
  rcases (hX s s.heap hEE).2.1 with z | ⟨t, z⟩
  · refine va_gets hx hcode z S hown (hts _ w_ssf) (fun _ h => h) hdg ?_
    exact kn p e s mi args below meth cd H locs cells slots ls C R S hl
  · refine va_gets hx hcode z S hown (hts _ w_ssf) (fun _ h => h) hdg ?_
    exact kk t p e s mi args below meth cd H locs cells slots ls C R S hl
theorem gG_getV (hX : gXs B sK sV) (hcls : (gY m).cls = "java/lang/String") (hi : i < 8) (hdg : decode (gCd m) pc = .ok (.getfield 9, 3)) (kk : gG B m d c n (pc + 3) lv (.ref (sV i) :: st) h Q) : gG B m d c n pc lv (.ref (sK i) :: st) h Q := by
  intro p e s mi args below meth cd H locs cells slots ls C R S hl
  obtain ⟨hx, hcode, hml, hr, hlo, hown, hnm, hts, ⟨hKK, hEE⟩, hbs, hEx⟩ := id C
  rw [hcls] at hown
  refine vk_getf hx hcode (((hX s s.heap hEE).2.2.1.1 i hi).2.2.1) S hown (hts _ w_sva) (fun _ h => h) hdg ?_
  exact kk p e s mi args below meth cd H locs cells slots ls C R S hl
theorem gG_getCo (hX : gXs B sK sV) (hcls : (gY m).cls = "java/lang/String") (hi : i < 8) (hdg : decode (gCd m) pc = .ok (.getfield 15, 3)) (kk : gG B m d c n (pc + 3) lv (.int (nI 0) :: st) h Q) : gG B m d c n pc lv (.ref (sK i) :: st) h Q := by
  intro p e s mi args below meth cd H locs cells slots ls C R S hl
  obtain ⟨hx, hcode, hml, hr, hlo, hown, hnm, hts, ⟨hKK, hEE⟩, hbs, hEx⟩ := id C
  rw [hcls] at hown
  refine vk_getf hx hcode (((hX s s.heap hEE).2.2.1.1 i hi).2.1) S hown (hts _ w_sco) (fun _ h => h) hdg ?_
  exact kk p e s mi args below meth cd H locs cells slots ls C R S hl
theorem gG_lenV (hX : gXs B sK sV) (hi : i < 8) (hdg : decode (gCd m) pc = .ok (.arraylength, 1)) (kk : gG B m d c n (pc + 1) lv (.int (nI (sLen.getD i 0)) :: st) h Q) : gG B m d c n pc lv (.ref (sV i) :: st) h Q := by
  intro p e s mi args below meth cd H locs cells slots ls C R S hl
  obtain ⟨hx, hcode, hml, hr, hlo, hown, hnm, hts, ⟨hKK, hEE⟩, hbs, hEx⟩ := id C
  refine va_tlen hx hcode (((hX s s.heap hEE).2.2.1.1 i hi).2.2.2) S rfl hdg ?_
  exact kk p e s mi args below meth cd H locs cells slots ls C R S hl
theorem gG_baldV {j : Nat} (hX : gXs B sK sV) (hi : i < 8) (hj : j < sLen.getD i 0) (hdg : decode (gCd m) pc = .ok (.baload, 1)) (kk : gG B m d c n (pc + 1) lv (.int (nI ((sBy.getD i []).getD j 0)) :: st) h Q) : gG B m d c n pc lv (.int (nI j) :: .ref (sV i) :: st) h Q := by
  intro p e s mi args below meth cd H locs cells slots ls C R S hl
  obtain ⟨hx, hcode, hml, hr, hlo, hown, hnm, hts, ⟨hKK, hEE⟩, hbs, hEx⟩ := id C
  have h6 := (sBy_lt ⟨i, hi⟩ ⟨0, by omega⟩).2
  simp only at h6
  refine va_tb hx hcode (((hX s s.heap hEE).2.2.1.1 i hi).2.2.2) S (i := nI j) ((vpn (by omega) (by omega)).mpr hj) (v := .int (nI ((sBy.getD i []).getD j 0))) (by rw [nI_clamp (by omega), sByt_e hi hj]) hdg ?_
  exact kk p e s mi args below meth cd H locs cells slots ls C R S hl
theorem gG_callVS (hX : gXs B sK sV) (hi : i < 8) (hf : gVok f) (hdg : decode (gCd m) pc = .ok (.invokevirtual idx, 3)) (hlk : Cond.methodLink (gY m).cls idx (gY f) ∈ lw_good) (hq : (gY f).cls = "java/lang/String") (hn : As.length = (gIx f).2.1) (hr : (rest.map fun v => v.category).sum ≤ 8) (hd : d1 + 1 ≤ d)
    (hFn : gFn B f d1 0 0 (.ref (sK i) :: As) h (fun v h' => gG B m d c n (pc + 3) lv (v.toList ++ rest) h' Q)) : gG B m d c n pc lv (As.reverse ++ .ref (sK i) :: rest) h Q := by
  intro p e s mi args below meth cd H locs cells slots ls C R S hl
  obtain ⟨hx, hcode, hml, hrr, hlo, hown, hnm, hts, ⟨hKK, hEE⟩, hbs, hEx⟩ := id C
  obtain ⟨⟨w1, w2, w3, w4, w5, w6, w7, w8⟩, w9, w10⟩ := hf
  have hrv := vk_recv (hX s s.heap hEE).2.2.1 hi S
  rw [← hq] at hrv
  refine gW_call (va_runV (As := As) (rest := rest) ⟨hx, hcode, hml, hown, hts⟩ (hFn hEx) (cwV (C := (gY f).cls) (bytes := gCd f) (maxL := gL f) (ret := gRt f) _ hts (gGoodSub (fun w hw => ?_)) rfl rfl rfl ⟨rfl, w3, w4, w5⟩ ⟨hd, by simp only [gRm]; omega⟩) ⟨gBlind hEx, hrv, fun U hU hW => ⟨rfl, by rw [hU]; exact R, by rw [hU]; exact gC_ex C S hW⟩⟩ rfl hn hl.1 rfl (lv_room hr) hdg ⟨by simp only [gRm]; omega, by simp only [gRm]; omega⟩) S ?_
  · simp only [wsV, List.mem_append, List.mem_cons, List.not_mem_nil, or_false] at hw
    rcases hw with (rfl | rfl | rfl | rfl) | hw
    · exact hlk
    · exact w9
    · exact w10
    · exact w2
    · exact gGoodWs w1 w hw
  · intro v h' H1 locs1 hG R1 S1
    have K := hG p e s mi args below meth cd H1 locs1 (cells + 0) (slots + 0) ls C R1 S1 hl
    exact K
set_option maxHeartbeats 800000 in
theorem j_coder (hX : gXs B sK sV) (hi : i < 8) (hq : Q (some (.int (nI 0))) h) : gFn B mJ0_coder_7d493 (d + 1) 0 0 [.ref (sK i)] h Q := by
  show gFn B kJ0_coder_7d493 (d + 1) 0 0 [.ref (sK i)] h Q
  refine gFn_of pnJ0_coder_7d493 (Nat.le_of_ble_eq_true rfl) ?_
  refine gG_getsC hX rfl eJ0_coder_7d493_0 ?_
  refine gAx (cut := [(7, [0])]) okJ0_coder_7d493 60 ?_
  simp only [axC_nil, axC_hit, axC_def, cutAt, lvLive, Option.isSome_none, Option.isSome_some, catS, lvGet, lvIns, lvSet1, lvSet2, gLit_0, gLit_1, lv_args, fv0, fv1, fv2, fv3, isI_s, isL_s, isRf_s, isRf_n, gtI_s, gtL_s, gtV_s, gFilter_nil, gFilter_cons, gL1, gL2, gL3, gL4, gL5, va_rf_s, va_rf_n, hK_sI, hK_sR, hK_sA, hK_sJ, hK_sO, hI_sI, hI_sR, hI_sA, hI_sJ, hI_sO, hR_sI, hR_sR, hR_sA, hR_sJ, hR_sO, hN_sI, hN_sR, hN_sA, hN_sJ, hN_sO, hA_sI, hA_sR, hA_sA, hA_sJ, hA_sO, hJ_sI, hJ_sR, hJ_sA, hJ_sJ, hJ_sO, hO_sI, hO_sR, hO_sA, hO_sJ, hO_sO, up3_eq, up2_eq, List.map_cons, List.map_nil, List.sum_cons, List.sum_nil, List.nil_append, List.cons_append, Option.toList_some, Option.toList_none, true_and, and_true, if_true, if_false, and_self, true_or, or_true, or_false, false_or, false_and, and_false, not_true_eq_false, not_false_eq_true, forall_const, reduceCtorEq, implies_true, List.contains_cons, List.contains_nil, Bool.or_false, Bool.false_or, Bool.or_true, Bool.true_or, Bool.and_true, Bool.true_and, Bool.and_false, Bool.false_and, Bool.not_true, Bool.not_false, BEq.rfl, Bool.false_eq_true, Bool.true_eq_false, eq_self, ↓reduceIte, Nat.reduceAdd, Nat.reduceEqDiff, Nat.reduceBEq, Nat.reduceLT, Nat.reduceLeDiff, Nat.reduceSub, Nat.reduceMul, Nat.reduceBNe, List.append_nil, Nat.zero_le, Nat.zero_add, Nat.zero_ne_one, Nat.one_ne_zero, false_implies, true_implies, not_false_eq_true, ne_eq, upd_e, updL_e, bI_zo, nI0z, nI1o, nI1z, nI0o, nI0q, nI1q, nm1_lt, nm1_ge, ax_if_eq tJ0_coder_7d493_3, ax_aload_n tJ0_coder_7d493_6, ax_goto tJ0_coder_7d493_10, ax_iconst tJ0_coder_7d493_13]
  refine gG_getCo hX rfl hi eJ0_coder_7d493_7 ?_
  refine gAx (cut := [(14, [0])]) okJ0_coder_7d493 60 ?_
  simp only [axC_nil, axC_hit, axC_def, cutAt, lvLive, Option.isSome_none, Option.isSome_some, catS, lvGet, lvIns, lvSet1, lvSet2, gLit_0, gLit_1, lv_args, fv0, fv1, fv2, fv3, isI_s, isL_s, isRf_s, isRf_n, gtI_s, gtL_s, gtV_s, gFilter_nil, gFilter_cons, gL1, gL2, gL3, gL4, gL5, va_rf_s, va_rf_n, hK_sI, hK_sR, hK_sA, hK_sJ, hK_sO, hI_sI, hI_sR, hI_sA, hI_sJ, hI_sO, hR_sI, hR_sR, hR_sA, hR_sJ, hR_sO, hN_sI, hN_sR, hN_sA, hN_sJ, hN_sO, hA_sI, hA_sR, hA_sA, hA_sJ, hA_sO, hJ_sI, hJ_sR, hJ_sA, hJ_sJ, hJ_sO, hO_sI, hO_sR, hO_sA, hO_sJ, hO_sO, up3_eq, up2_eq, List.map_cons, List.map_nil, List.sum_cons, List.sum_nil, List.nil_append, List.cons_append, Option.toList_some, Option.toList_none, true_and, and_true, if_true, if_false, and_self, true_or, or_true, or_false, false_or, false_and, and_false, not_true_eq_false, not_false_eq_true, forall_const, reduceCtorEq, implies_true, List.contains_cons, List.contains_nil, Bool.or_false, Bool.false_or, Bool.or_true, Bool.true_or, Bool.and_true, Bool.true_and, Bool.and_false, Bool.false_and, Bool.not_true, Bool.not_false, BEq.rfl, Bool.false_eq_true, Bool.true_eq_false, eq_self, ↓reduceIte, Nat.reduceAdd, Nat.reduceEqDiff, Nat.reduceBEq, Nat.reduceLT, Nat.reduceLeDiff, Nat.reduceSub, Nat.reduceMul, Nat.reduceBNe, List.append_nil, Nat.zero_le, Nat.zero_add, Nat.zero_ne_one, Nat.one_ne_zero, false_implies, true_implies, not_false_eq_true, ne_eq, upd_e, updL_e, bI_zo, nI0z, nI1o, nI1z, nI0o, nI0q, nI1q, nm1_lt, nm1_ge, ax_if_eq tJ0_coder_7d493_3, ax_aload_n tJ0_coder_7d493_6, ax_goto tJ0_coder_7d493_10, ax_iconst tJ0_coder_7d493_13]
  refine gG_iret eJ0_coder_7d493_14 (ty := .byte) rfl (by decide) hq
set_option maxHeartbeats 800000 in
theorem j_isLatin1 (hX : gXs B sK sV) (hi : i < 8) (hq : Q (some (.int (nI 1))) h) : gFn B mJ0_isLatin1_aae02 (d + 1) 0 0 [.ref (sK i)] h Q := by
  show gFn B kJ0_isLatin1_aae02 (d + 1) 0 0 [.ref (sK i)] h Q
  refine gFn_of pnJ0_isLatin1_aae02 (Nat.le_of_ble_eq_true rfl) ?_
  refine gG_getsC hX rfl eJ0_isLatin1_aae02_0 ?_
  refine gAx (cut := [(7, [0])]) okJ0_isLatin1_aae02 60 ?_
  simp only [axC_nil, axC_hit, axC_def, cutAt, lvLive, Option.isSome_none, Option.isSome_some, catS, lvGet, lvIns, lvSet1, lvSet2, gLit_0, gLit_1, lv_args, fv0, fv1, fv2, fv3, isI_s, isL_s, isRf_s, isRf_n, gtI_s, gtL_s, gtV_s, gFilter_nil, gFilter_cons, gL1, gL2, gL3, gL4, gL5, va_rf_s, va_rf_n, hK_sI, hK_sR, hK_sA, hK_sJ, hK_sO, hI_sI, hI_sR, hI_sA, hI_sJ, hI_sO, hR_sI, hR_sR, hR_sA, hR_sJ, hR_sO, hN_sI, hN_sR, hN_sA, hN_sJ, hN_sO, hA_sI, hA_sR, hA_sA, hA_sJ, hA_sO, hJ_sI, hJ_sR, hJ_sA, hJ_sJ, hJ_sO, hO_sI, hO_sR, hO_sA, hO_sJ, hO_sO, up3_eq, up2_eq, List.map_cons, List.map_nil, List.sum_cons, List.sum_nil, List.nil_append, List.cons_append, Option.toList_some, Option.toList_none, true_and, and_true, if_true, if_false, and_self, true_or, or_true, or_false, false_or, false_and, and_false, not_true_eq_false, not_false_eq_true, forall_const, reduceCtorEq, implies_true, List.contains_cons, List.contains_nil, Bool.or_false, Bool.false_or, Bool.or_true, Bool.true_or, Bool.and_true, Bool.true_and, Bool.and_false, Bool.false_and, Bool.not_true, Bool.not_false, BEq.rfl, Bool.false_eq_true, Bool.true_eq_false, eq_self, ↓reduceIte, Nat.reduceAdd, Nat.reduceEqDiff, Nat.reduceBEq, Nat.reduceLT, Nat.reduceLeDiff, Nat.reduceSub, Nat.reduceMul, Nat.reduceBNe, List.append_nil, Nat.zero_le, Nat.zero_add, Nat.zero_ne_one, Nat.one_ne_zero, false_implies, true_implies, not_false_eq_true, ne_eq, upd_e, updL_e, bI_zo, nI0z, nI1o, nI1z, nI0o, nI0q, nI1q, nm1_lt, nm1_ge, ax_if_eq tJ0_isLatin1_aae02_3, ax_aload_n tJ0_isLatin1_aae02_6, ax_if_ne tJ0_isLatin1_aae02_10, ax_iconst tJ0_isLatin1_aae02_13, ax_goto tJ0_isLatin1_aae02_14, ax_iconst tJ0_isLatin1_aae02_17, ax_iretZ tJ0_isLatin1_aae02_18]
  refine gG_getCo hX rfl hi eJ0_isLatin1_aae02_7 ?_
  refine gAx (cut := []) okJ0_isLatin1_aae02 60 ?_
  simp only [axC_nil, axC_hit, axC_def, cutAt, lvLive, Option.isSome_none, Option.isSome_some, catS, lvGet, lvIns, lvSet1, lvSet2, gLit_0, gLit_1, lv_args, fv0, fv1, fv2, fv3, isI_s, isL_s, isRf_s, isRf_n, gtI_s, gtL_s, gtV_s, gFilter_nil, gFilter_cons, gL1, gL2, gL3, gL4, gL5, va_rf_s, va_rf_n, hK_sI, hK_sR, hK_sA, hK_sJ, hK_sO, hI_sI, hI_sR, hI_sA, hI_sJ, hI_sO, hR_sI, hR_sR, hR_sA, hR_sJ, hR_sO, hN_sI, hN_sR, hN_sA, hN_sJ, hN_sO, hA_sI, hA_sR, hA_sA, hA_sJ, hA_sO, hJ_sI, hJ_sR, hJ_sA, hJ_sJ, hJ_sO, hO_sI, hO_sR, hO_sA, hO_sJ, hO_sO, up3_eq, up2_eq, List.map_cons, List.map_nil, List.sum_cons, List.sum_nil, List.nil_append, List.cons_append, Option.toList_some, Option.toList_none, true_and, and_true, if_true, if_false, and_self, true_or, or_true, or_false, false_or, false_and, and_false, not_true_eq_false, not_false_eq_true, forall_const, reduceCtorEq, implies_true, List.contains_cons, List.contains_nil, Bool.or_false, Bool.false_or, Bool.or_true, Bool.true_or, Bool.and_true, Bool.true_and, Bool.and_false, Bool.false_and, Bool.not_true, Bool.not_false, BEq.rfl, Bool.false_eq_true, Bool.true_eq_false, eq_self, ↓reduceIte, Nat.reduceAdd, Nat.reduceEqDiff, Nat.reduceBEq, Nat.reduceLT, Nat.reduceLeDiff, Nat.reduceSub, Nat.reduceMul, Nat.reduceBNe, List.append_nil, Nat.zero_le, Nat.zero_add, Nat.zero_ne_one, Nat.one_ne_zero, false_implies, true_implies, not_false_eq_true, ne_eq, upd_e, updL_e, bI_zo, nI0z, nI1o, nI1z, nI0o, nI0q, nI1q, nm1_lt, nm1_ge, ax_if_eq tJ0_isLatin1_aae02_3, ax_aload_n tJ0_isLatin1_aae02_6, ax_if_ne tJ0_isLatin1_aae02_10, ax_iconst tJ0_isLatin1_aae02_13, ax_goto tJ0_isLatin1_aae02_14, ax_iconst tJ0_isLatin1_aae02_17, ax_iretZ tJ0_isLatin1_aae02_18]
  exact hq
set_option maxHeartbeats 800000 in
theorem j_length (hX : gXs B sK sV) (hi : i < 8) (hq : Q (some (.int (nI (sLen.getD i 0)))) h) : gFn B mJ0_length_8abf5 (d + 2) 0 0 [.ref (sK i)] h Q := by
  show gFn B kJ0_length_8abf5 (d + 2) 0 0 [.ref (sK i)] h Q
  refine gStartX (cut := [(1, [0])]) pnJ0_length_8abf5 okJ0_length_8abf5 (Nat.le_of_ble_eq_true rfl) 60 ?_
  simp only [axC_nil, axC_hit, axC_def, cutAt, lvLive, Option.isSome_none, Option.isSome_some, catS, lvGet, lvIns, lvSet1, lvSet2, gLit_0, gLit_1, lv_args, fv0, fv1, fv2, fv3, isI_s, isL_s, isRf_s, isRf_n, gtI_s, gtL_s, gtV_s, gFilter_nil, gFilter_cons, gL1, gL2, gL3, gL4, gL5, va_rf_s, va_rf_n, hK_sI, hK_sR, hK_sA, hK_sJ, hK_sO, hI_sI, hI_sR, hI_sA, hI_sJ, hI_sO, hR_sI, hR_sR, hR_sA, hR_sJ, hR_sO, hN_sI, hN_sR, hN_sA, hN_sJ, hN_sO, hA_sI, hA_sR, hA_sA, hA_sJ, hA_sO, hJ_sI, hJ_sR, hJ_sA, hJ_sJ, hJ_sO, hO_sI, hO_sR, hO_sA, hO_sJ, hO_sO, up3_eq, up2_eq, List.map_cons, List.map_nil, List.sum_cons, List.sum_nil, List.nil_append, List.cons_append, Option.toList_some, Option.toList_none, true_and, and_true, if_true, if_false, and_self, true_or, or_true, or_false, false_or, false_and, and_false, not_true_eq_false, not_false_eq_true, forall_const, reduceCtorEq, implies_true, List.contains_cons, List.contains_nil, Bool.or_false, Bool.false_or, Bool.or_true, Bool.true_or, Bool.and_true, Bool.true_and, Bool.and_false, Bool.false_and, Bool.not_true, Bool.not_false, BEq.rfl, Bool.false_eq_true, Bool.true_eq_false, eq_self, ↓reduceIte, Nat.reduceAdd, Nat.reduceEqDiff, Nat.reduceBEq, Nat.reduceLT, Nat.reduceLeDiff, Nat.reduceSub, Nat.reduceMul, Nat.reduceBNe, List.append_nil, Nat.zero_le, Nat.zero_add, Nat.zero_ne_one, Nat.one_ne_zero, false_implies, true_implies, not_false_eq_true, ne_eq, upd_e, updL_e, bI_zo, nI0z, nI1o, nI1z, nI0o, nI0q, nI1q, nm1_lt, nm1_ge, ax_aload_n tJ0_length_8abf5_0, ax_aload_n tJ0_length_8abf5_5, ax_ishr tJ0_length_8abf5_9, ax_iretI tJ0_length_8abf5_10, f_175]
  refine gG_getV hX rfl hi eJ0_length_8abf5_1 ?_
  refine gG_lenV hX hi eJ0_length_8abf5_4 ?_
  refine gAx (cut := [(6, [])]) okJ0_length_8abf5 60 ?_
  simp only [axC_nil, axC_hit, axC_def, cutAt, lvLive, Option.isSome_none, Option.isSome_some, catS, lvGet, lvIns, lvSet1, lvSet2, gLit_0, gLit_1, lv_args, fv0, fv1, fv2, fv3, isI_s, isL_s, isRf_s, isRf_n, gtI_s, gtL_s, gtV_s, gFilter_nil, gFilter_cons, gL1, gL2, gL3, gL4, gL5, va_rf_s, va_rf_n, hK_sI, hK_sR, hK_sA, hK_sJ, hK_sO, hI_sI, hI_sR, hI_sA, hI_sJ, hI_sO, hR_sI, hR_sR, hR_sA, hR_sJ, hR_sO, hN_sI, hN_sR, hN_sA, hN_sJ, hN_sO, hA_sI, hA_sR, hA_sA, hA_sJ, hA_sO, hJ_sI, hJ_sR, hJ_sA, hJ_sJ, hJ_sO, hO_sI, hO_sR, hO_sA, hO_sJ, hO_sO, up3_eq, up2_eq, List.map_cons, List.map_nil, List.sum_cons, List.sum_nil, List.nil_append, List.cons_append, Option.toList_some, Option.toList_none, true_and, and_true, if_true, if_false, and_self, true_or, or_true, or_false, false_or, false_and, and_false, not_true_eq_false, not_false_eq_true, forall_const, reduceCtorEq, implies_true, List.contains_cons, List.contains_nil, Bool.or_false, Bool.false_or, Bool.or_true, Bool.true_or, Bool.and_true, Bool.true_and, Bool.and_false, Bool.false_and, Bool.not_true, Bool.not_false, BEq.rfl, Bool.false_eq_true, Bool.true_eq_false, eq_self, ↓reduceIte, Nat.reduceAdd, Nat.reduceEqDiff, Nat.reduceBEq, Nat.reduceLT, Nat.reduceLeDiff, Nat.reduceSub, Nat.reduceMul, Nat.reduceBNe, List.append_nil, Nat.zero_le, Nat.zero_add, Nat.zero_ne_one, Nat.one_ne_zero, false_implies, true_implies, not_false_eq_true, ne_eq, upd_e, updL_e, bI_zo, nI0z, nI1o, nI1z, nI0o, nI0q, nI1q, nm1_lt, nm1_ge, ax_aload_n tJ0_length_8abf5_0, ax_aload_n tJ0_length_8abf5_5, ax_ishr tJ0_length_8abf5_9, ax_iretI tJ0_length_8abf5_10, f_175]
  refine gG_callVS (f := mJ0_coder_7d493) (As := []) (rest := [.int (nI (sLen.getD i 0))]) (d1 := d + 1) (d := d + 2) hX hi (okMb_V (gMs_at (r := 175) (by decide)) (by decide)) eJ0_length_8abf5_6 (gMem (i := 577) rfl rfl) rfl rfl (by simp [Value.category]) (by omega) ?_
  refine j_coder hX hi ?_
  have h6 := (sBy_lt ⟨i, hi⟩ ⟨0, by omega⟩).2
  simp only at h6
  have e : nI (sLen.getD i 0) >>> (nI 0 &&& 31) = nI (sLen.getD i 0) := by
    have : ∀ k : Fin 7, nI k.val >>> (nI 0 &&& 31) = nI k.val := by decide
    exact this ⟨_, by omega⟩
  refine gAx (cut := []) okJ0_length_8abf5 60 ?_
  simp only [axC_nil, axC_hit, axC_def, cutAt, lvLive, Option.isSome_none, Option.isSome_some, catS, lvGet, lvIns, lvSet1, lvSet2, gLit_0, gLit_1, lv_args, fv0, fv1, fv2, fv3, isI_s, isL_s, isRf_s, isRf_n, gtI_s, gtL_s, gtV_s, gFilter_nil, gFilter_cons, gL1, gL2, gL3, gL4, gL5, va_rf_s, va_rf_n, hK_sI, hK_sR, hK_sA, hK_sJ, hK_sO, hI_sI, hI_sR, hI_sA, hI_sJ, hI_sO, hR_sI, hR_sR, hR_sA, hR_sJ, hR_sO, hN_sI, hN_sR, hN_sA, hN_sJ, hN_sO, hA_sI, hA_sR, hA_sA, hA_sJ, hA_sO, hJ_sI, hJ_sR, hJ_sA, hJ_sJ, hJ_sO, hO_sI, hO_sR, hO_sA, hO_sJ, hO_sO, up3_eq, up2_eq, List.map_cons, List.map_nil, List.sum_cons, List.sum_nil, List.nil_append, List.cons_append, Option.toList_some, Option.toList_none, true_and, and_true, if_true, if_false, and_self, true_or, or_true, or_false, false_or, false_and, and_false, not_true_eq_false, not_false_eq_true, forall_const, reduceCtorEq, implies_true, List.contains_cons, List.contains_nil, Bool.or_false, Bool.false_or, Bool.or_true, Bool.true_or, Bool.and_true, Bool.true_and, Bool.and_false, Bool.false_and, Bool.not_true, Bool.not_false, BEq.rfl, Bool.false_eq_true, Bool.true_eq_false, eq_self, ↓reduceIte, Nat.reduceAdd, Nat.reduceEqDiff, Nat.reduceBEq, Nat.reduceLT, Nat.reduceLeDiff, Nat.reduceSub, Nat.reduceMul, Nat.reduceBNe, List.append_nil, Nat.zero_le, Nat.zero_add, Nat.zero_ne_one, Nat.one_ne_zero, false_implies, true_implies, not_false_eq_true, ne_eq, upd_e, updL_e, bI_zo, nI0z, nI1o, nI1z, nI0o, nI0q, nI1q, nm1_lt, nm1_ge, ax_aload_n tJ0_length_8abf5_0, ax_aload_n tJ0_length_8abf5_5, ax_ishr tJ0_length_8abf5_9, ax_iretI tJ0_length_8abf5_10, f_175]
  rw [e]
  exact hq
end GSTR
