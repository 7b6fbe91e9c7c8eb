/-! THE CLASS: for which asks a text was given: one bit an ask -/
theorem gv_sh : ∀ q : Fin 20, nI 1 <<< (nI q.val &&& 31) = nI (2 ^ q.val) := by decide +kernel
theorem gv_sm : ∀ q : Fin 20, ((nI q.val &&& 31 : Int32).toBitVec.smod 32).toNat = q.val := by decide +kernel
theorem gv_bit {m q : Nat} (hm : m < 2 ^ 20) (hq : q < 20) : (nI m >>> (nI q &&& 31)) &&& nI 1 = nI (m / 2 ^ q % 2) := by
  have e1 : ((nI q &&& 31 : Int32).toBitVec.smod 32).toNat = q := gv_sm ⟨q, hq⟩
  have eb : (nI m).toBitVec = BitVec.ofNat 32 m := rfl
  have en : (BitVec.ofNat 32 m).toNat = m := by rw [BitVec.toNat_ofNat]; exact Nat.mod_eq_of_lt (by omega)
  have ms : (BitVec.ofNat 32 m).msb = false := by
    rw [BitVec.msb_eq_false_iff_two_mul_lt, en]
    omega
  have hl : m / 2 ^ q < 2 ^ 32 := Nat.lt_of_le_of_lt (Nat.div_le_self _ _) (by omega)
  have hr : m / 2 ^ q % 2 < 2 := Nat.mod_lt _ (by omega)
  have e2 : ((nI m >>> (nI q &&& 31)) &&& nI 1).toBitVec.toNat = m / 2 ^ q % 2 := by
    rw [Int32.toBitVec_and, Int32.toBitVec_shiftRight, eb, BitVec.toNat_and, BitVec.toNat_sshiftRight'_of_msb_false ms, e1, en, Nat.shiftRight_eq_div_pow]
    have e3 : (nI 1).toBitVec.toNat = 1 := rfl
    rw [e3, Nat.and_one_is_mod]
  have e4 : (nI (m / 2 ^ q % 2)).toBitVec.toNat = m / 2 ^ q % 2 := by
    show (BitVec.ofNat 32 (m / 2 ^ q % 2)).toNat = _
    rw [BitVec.toNat_ofNat]
    exact Nat.mod_eq_of_lt (by omega)
  rw [← Int32.toBitVec_inj]
  exact BitVec.eq_of_toNat_eq (e2.trans e4.symm)
theorem gv_or {m q : Nat} (hq : q < 20) : nI m ||| (nI 1 <<< (nI q &&& 31)) = nI (m ||| 2 ^ q) := by
  rw [gv_sh ⟨q, hq⟩, ← Int32.toBitVec_inj, Int32.toBitVec_or]
  show BitVec.ofNat 32 m ||| BitVec.ofNat 32 (2 ^ q) = BitVec.ofNat 32 (m ||| 2 ^ q)
  rw [BitVec.ofNat_or]
theorem gv_lt {m q : Nat} (hm : m < 2 ^ 20) (hq : q < 20) : m ||| 2 ^ q < 2 ^ 20 := Nat.or_lt_two_pow hm (Nat.pow_lt_pow_right (by omega) hq)
theorem gv_set {m q k : Nat} : (m ||| 2 ^ q) / 2 ^ k % 2 = if k = q then 1 else m / 2 ^ k % 2 := by
  have h1 : (m ||| 2 ^ q).testBit k = (m.testBit k || (2 ^ q).testBit k) := Nat.testBit_or _ _ _
  rw [Nat.testBit_two_pow, Nat.testBit_eq_decide_div_mod_eq, Nat.testBit_eq_decide_div_mod_eq] at h1
  have l1 : (m ||| 2 ^ q) / 2 ^ k % 2 < 2 := Nat.mod_lt _ (by omega)
  have l2 : m / 2 ^ k % 2 < 2 := Nat.mod_lt _ (by omega)
  generalize (m ||| 2 ^ q) / 2 ^ k % 2 = x at *
  generalize m / 2 ^ k % 2 = y at *
  by_cases e : k = q
  · rw [if_pos e]
    rw [decide_eq_true e.symm, Bool.or_true, decide_eq_true_eq] at h1
    exact h1
  · rw [if_neg e]
    have q1 : decide (q = k) = false := decide_eq_false (fun w => e w.symm)
    rw [q1, Bool.or_false, decide_eq_decide] at h1
    omega
/-- the text x was given for the asks of m -/
def GVN (h : gHp) (x m : Nat) : Prop := hI h 8 4 x = nI m ∧ m < 2 ^ 20
section CLSC2
variable {B : gB} {h : gHp} {d : Nat} {Q : Option Value → gHp → Prop} {x y m b : Nat}
set_option maxHeartbeats 800000 in
theorem x_wasGivenFor (kx : hK h x = 9) (gm : GVN h x m) (ky : hK h y = 2) (iy : hI h 1 0 y = nI b) (hb : b < 20) (hq : Q (some (.int (bI (m / 2 ^ b % 2 == 1)))) h) : gFn B mX7_wasGivenFor (d + 1) 0 0 [.ref x, .ref y] h Q := by
  have g1 := gm.1
  have e1 := gv_bit gm.2 hb
  have hr : m / 2 ^ b % 2 < 2 := Nat.mod_lt _ (by omega)
  generalize m / 2 ^ b % 2 = r at *
  refine gStartX (cut := []) pnX7_wasGivenFor okX7_wasGivenFor (Nat.le_of_ble_eq_true rfl) 40 ?_
  simp only [axC_nil, axC_hit, axC_def, cutAt, lvLive, Option.isSome_none, Option.isSome_some, catS, lvGet, lvIns, lvSet1, lvSet2, gLit_0, gLit_1, lv_args, fv0, fv1, fv2, fv3, isI_s, isL_s, isRf_s, isRf_n, gtI_s, gtL_s, gtV_s, gFilter_nil, gFilter_cons, gL1, gL2, gL3, gL4, gL5, va_rf_s, va_rf_n, hK_sI, hK_sR, hK_sA, hK_sJ, hK_sO, hI_sI, hI_sR, hI_sA, hI_sJ, hI_sO, hR_sI, hR_sR, hR_sA, hR_sJ, hR_sO, hN_sI, hN_sR, hN_sA, hN_sJ, hN_sO, hA_sI, hA_sR, hA_sA, hA_sJ, hA_sO, hJ_sI, hJ_sR, hJ_sA, hJ_sJ, hJ_sO, hO_sI, hO_sR, hO_sA, hO_sJ, hO_sO, up3_eq, up2_eq, List.map_cons, List.map_nil, List.sum_cons, List.sum_nil, List.nil_append, List.cons_append, Option.toList_some, Option.toList_none, true_and, and_true, if_true, if_false, and_self, true_or, or_true, or_false, false_or, false_and, and_false, not_true_eq_false, not_false_eq_true, forall_const, reduceCtorEq, implies_true, List.contains_cons, List.contains_nil, Bool.or_false, Bool.false_or, Bool.or_true, Bool.true_or, Bool.and_true, Bool.true_and, Bool.and_false, Bool.false_and, Bool.not_true, Bool.not_false, BEq.rfl, Bool.false_eq_true, Bool.true_eq_false, eq_self, ↓reduceIte, Nat.reduceAdd, Nat.reduceEqDiff, Nat.reduceBEq, Nat.reduceLT, Nat.reduceLeDiff, Nat.reduceSub, Nat.reduceMul, Nat.reduceBNe, List.append_nil, Nat.zero_le, Nat.zero_add, Nat.zero_ne_one, Nat.one_ne_zero, false_implies, true_implies, not_false_eq_true, ne_eq, upd_e, updL_e, bI_zo, nI0z, nI1o, nI1z, nI0o, nI0q, nI1q, nm1_lt, nm1_ge, ax_aload_n tX7_wasGivenFor_0, ax_getI tX7_wasGivenFor_1, ax_aload_n tX7_wasGivenFor_4, ax_getI tX7_wasGivenFor_5, ax_ishr tX7_wasGivenFor_8, ax_iconst tX7_wasGivenFor_9, ax_iand tX7_wasGivenFor_10, ax_if_eq tX7_wasGivenFor_11, ax_iconst tX7_wasGivenFor_14, ax_goto tX7_wasGivenFor_15, ax_iconst tX7_wasGivenFor_18, ax_iretZ tX7_wasGivenFor_19, kx, ky, iy, g1, e1]
  simp (disch := omega) only [z0, o1, nI_add, pk_mul, nI_ltI, nI_leI, nI_eq, nI_clamp, vpn, pk_sub, Nat.add_sub_cancel, bI_0, bI_1, eq_self, true_or, or_true, or_false, false_or, true_and, and_true, false_and, and_false, and_self, or_self, forall_const, not_true_eq_false, not_false_eq_true, false_implies, implies_true, true_implies, ↓reduceIte, if_true, if_false, Nat.not_lt_zero, Nat.zero_le, Nat.le_refl, Nat.lt_irrefl, ne_eq, reduceCtorEq, Bool.false_eq_true]
  refine ⟨fun c => ?_, fun c => ?_⟩
  · rw [beq_false_of_ne (by omega)] at hq; exact hq
  · rw [show (r == 1) = true by simp; omega] at hq; exact hq
set_option maxHeartbeats 800000 in
theorem x_noteGivenFor (kx : hK h x = 9) (gm : GVN h x m) (ky : hK h y = 2) (iy : hI h 1 0 y = nI b) (hb : b < 20) (hq : Q none (sI h 8 4 x (nI (m ||| 2 ^ b)))) : gFn B mX7_noteGivenFor (d + 1) 0 0 [.ref x, .ref y] h Q := by
  have g1 := gm.1
  have e1 := gv_or (m := m) hb
  refine gStartX (cut := []) pnX7_noteGivenFor okX7_noteGivenFor (Nat.le_of_ble_eq_true rfl) 40 ?_
  simp only [axC_nil, axC_hit, axC_def, cutAt, lvLive, Option.isSome_none, Option.isSome_some, catS, lvGet, lvIns, lvSet1, lvSet2, gLit_0, gLit_1, lv_args, fv0, fv1, fv2, fv3, isI_s, isL_s, isRf_s, isRf_n, gtI_s, gtL_s, gtV_s, gFilter_nil, gFilter_cons, gL1, gL2, gL3, gL4, gL5, va_rf_s, va_rf_n, hK_sI, hK_sR, hK_sA, hK_sJ, hK_sO, hI_sI, hI_sR, hI_sA, hI_sJ, hI_sO, hR_sI, hR_sR, hR_sA, hR_sJ, hR_sO, hN_sI, hN_sR, hN_sA, hN_sJ, hN_sO, hA_sI, hA_sR, hA_sA, hA_sJ, hA_sO, hJ_sI, hJ_sR, hJ_sA, hJ_sJ, hJ_sO, hO_sI, hO_sR, hO_sA, hO_sJ, hO_sO, up3_eq, up2_eq, List.map_cons, List.map_nil, List.sum_cons, List.sum_nil, List.nil_append, List.cons_append, Option.toList_some, Option.toList_none, true_and, and_true, if_true, if_false, and_self, true_or, or_true, or_false, false_or, false_and, and_false, not_true_eq_false, not_false_eq_true, forall_const, reduceCtorEq, implies_true, List.contains_cons, List.contains_nil, Bool.or_false, Bool.false_or, Bool.or_true, Bool.true_or, Bool.and_true, Bool.true_and, Bool.and_false, Bool.false_and, Bool.not_true, Bool.not_false, BEq.rfl, Bool.false_eq_true, Bool.true_eq_false, eq_self, ↓reduceIte, Nat.reduceAdd, Nat.reduceEqDiff, Nat.reduceBEq, Nat.reduceLT, Nat.reduceLeDiff, Nat.reduceSub, Nat.reduceMul, Nat.reduceBNe, List.append_nil, Nat.zero_le, Nat.zero_add, Nat.zero_ne_one, Nat.one_ne_zero, false_implies, true_implies, not_false_eq_true, ne_eq, upd_e, updL_e, bI_zo, nI0z, nI1o, nI1z, nI0o, nI0q, nI1q, nm1_lt, nm1_ge, ax_aload_n tX7_noteGivenFor_0, ax_dup tX7_noteGivenFor_1, ax_getI tX7_noteGivenFor_2, ax_iconst tX7_noteGivenFor_5, ax_aload_n tX7_noteGivenFor_6, ax_getI tX7_noteGivenFor_7, ax_ishl tX7_noteGivenFor_10, ax_ior tX7_noteGivenFor_11, ax_putI tX7_noteGivenFor_12, ax_vret tX7_noteGivenFor_15, kx, ky, iy, g1, e1]
  exact hq
end CLSC2
