/-! THE CLASS: which grounds hold -/
def gmk (rl : List (Nat × List (Nat × Nat))) (kn : Nat → Int32) : Nat → Nat
  | 0 => 0
  | i + 1 => if bitG (gmk rl kn i) (rl.getD i (0, [])).1 then gmk rl kn i else if evV kn (rl.getD i (0, [])).2 = nI 0 then gmk rl kn i else gmk rl kn i ||| 2 ^ (rl.getD i (0, [])).1
theorem bitG_tb (m g : Nat) : bitG m g = m.testBit g := by
  rw [Nat.testBit_eq_decide_div_mod_eq]
  unfold bitG
  rw [Bool.eq_iff_iff]
  simp
theorem bitG_or (m k g : Nat) : bitG (m ||| 2 ^ k) g = (bitG m g || (k == g)) := by
  rw [bitG_tb, bitG_tb, Nat.testBit_or, Nat.testBit_two_pow]
  rfl
theorem gmk_lt {rl : List (Nat × List (Nat × Nat))} {kn : Nat → Int32} (hg : ∀ l, l ∈ rl → l.1 ≤ 9) : ∀ i, i ≤ rl.length → gmk rl kn i < 1024 := by
  intro i
  induction i with
  | zero => intro _; unfold gmk; omega
  | succ i ih =>
    intro hi
    have h1 := ih (by omega)
    unfold gmk
    split
    · exact h1
    · split
      · exact h1
      · have hm : rl.getD i (0, []) ∈ rl := by
          rw [List.getD_eq_getElem?_getD, List.getElem?_eq_getElem (by omega)]
          exact List.getElem_mem (by omega)
        have := hg _ hm
        exact Nat.or_lt_two_pow (n := 10) h1 (Nat.pow_lt_pow_right (by decide) (by omega))
theorem gmk_any (rl : List (Nat × List (Nat × Nat))) (kn : Nat → Int32) (g : Nat) : ∀ i, bitG (gmk rl kn i) g = anyN (lnH rl kn g) i := by
  intro i
  induction i with
  | zero => simp [gmk, anyN, bitG]
  | succ i ih =>
    unfold gmk anyN
    rw [← ih]
    unfold lnH
    split
    · rename_i hb
      by_cases e : (rl.getD i (0, [])).1 = g
      · rw [e] at hb; rw [hb]; simp
      · rw [beq_false_of_ne e]; simp
    · split
      · rename_i hb he
        rw [he]; simp
      · rename_i hb he
        rw [bitG_or]
        by_cases e : (rl.getD i (0, [])).1 = g
        · rw [e, BEq.rfl, decide_eq_true he, Bool.and_self]
        · rw [beq_false_of_ne e]; simp
set_option maxRecDepth 100000 in
theorem gr_or : ∀ t : Fin 1024, ∀ q : Fin 10, nI t.val ||| (nI 1 <<< (nI q.val &&& 31)) = nI (t.val ||| 2 ^ q.val) := by decide +kernel
theorem gr_or' {t q : Nat} (ht : t < 1024) (hq : q ≤ 9) : nI t ||| (nI 1 <<< (nI q &&& 31)) = nI (t ||| 2 ^ q) := gr_or ⟨t, ht⟩ ⟨q, by omega⟩
theorem cdG_split : ∀ {rl : List (Nat × List (Nat × Nat))} {i : Nat}, i < rl.length → ∃ t, cdG rl = cdG (rl.take i) ++ ((rl.getD i (0, [])).2 ++ t) ∧ cdG (rl.take (i + 1)) = cdG (rl.take i) ++ (rl.getD i (0, [])).2 := by
  intro rl
  induction rl with
  | nil => intro i h; simp at h
  | cons l r ih =>
    intro i h
    rcases i with _ | i
    · exact ⟨cdG r, by simp [cdG], by simp [cdG]⟩
    · simp only [List.length_cons] at h
      obtain ⟨t, e1, e2⟩ := ih (i := i) (by omega)
      refine ⟨t, ?_, ?_⟩
      · simp only [List.take_succ_cons, cdG, List.getD_cons_succ]
        rw [e1]; simp
      · simp only [List.take_succ_cons, cdG, List.getD_cons_succ]
        rw [e2]; simp
section CLSJ
variable {B : gB} {h : gHp} {d n : Nat} {Q : Option Value → gHp → Prop} {z : Nat → Nat} {rl : List (Nat × List (Nat × Nat))} {pd : List (Nat × Nat)}
theorem RUO.X {F : Nat → Int32} (hr : RUO h z rl pd) (hd : RUD z) : RUO (sA h 12 (z 5) F) z rl pd := by
  obtain ⟨h0, hl, hc, ac, al⟩ := hr
  refine ⟨h0, hl, hc, fun k hk => ?_, fun i hi => ?_⟩
  · rw [hA_sA, up2_eq, if_neg (by rw [hd 3 5 (by omega) (by omega)]; omega)]; exact ac k hk
  · rw [hA_sA, up2_eq, if_neg (by rw [hd 1 5 (by omega) (by omega)]; omega), up2_eq, if_neg (by rw [hd 2 5 (by omega) (by omega)]; omega)]; exact al i hi
set_option maxRecDepth 100000 in
set_option maxHeartbeats 3200000 in
theorem x_groundsHolding_loop {E e pg dy fo th now : Nat} {f zp : Nat → Nat} (hr : RUO h z rl []) (hd : RUD z) (hp : PAP E h zp e pg dy fo th f) (hdn : dy ≤ now) (hn : now < 2 ^ 31) (hg : ∀ l, l ∈ rl → l.1 ≤ 9 ∧ GC 16 l.2) (hq : ∀ F, Q (some (.int (nI (gmk rl (knP now pg dy fo th) rl.length)))) (sA h 12 (z 5) F)) : ∀ q i F, rl.length ≤ i + q → i ≤ rl.length → gG B mX5_groundsHolding (d + 4) 0 0 8 [(0, .ref (z 0)), (1, .ref (zp 0)), (2, .int (nI now)), (3, .int (nI (gmk rl (knP now pg dy fo th) i))), (4, .int (nI (cdG (rl.take i)).length)), (5, .int (nI i))] [] (sA h 12 (z 5) F) Q := by
  have d15 : ¬ z 1 = z 5 := by rw [hd 1 5 (by omega) (by omega)]; omega
  have d25 : ¬ z 2 = z 5 := by rw [hd 2 5 (by omega) (by omega)]; omega
  have hr' := hr
  obtain ⟨⟨k0, r1, r2, r3, r5, k1, k2, k3, k5, n1, n2, n3, n5, i0, i4⟩, hl, hc, ac, al⟩ := hr
  rw [List.append_nil] at hc ac
  have fin : ∀ i F, i = rl.length → gG B mX5_groundsHolding (d + 4) 0 0 8 [(0, .ref (z 0)), (1, .ref (zp 0)), (2, .int (nI now)), (3, .int (nI (gmk rl (knP now pg dy fo th) i))), (4, .int (nI (cdG (rl.take i)).length)), (5, .int (nI i))] [] (sA h 12 (z 5) F) Q := by
    intro i F ei
    subst ei
    refine gAx (cut := []) okX5_groundsHolding 60 ?_
    simp only [axC_nil, axC_hit, axC_def, cutAt, lvLive, Option.isSome_none, Option.isSome_some, catS, lvGet, lvIns, lvSet1, lvSet2, gLit_0, gLit_1, lv_args, fv0, fv1, fv2, fv3, isI_s, isL_s, isRf_s, isRf_n, gtI_s, gtL_s, gtV_s, gFilter_nil, gFilter_cons, gL1, gL2, gL3, gL4, gL5, va_rf_s, va_rf_n, hK_sI, hK_sR, hK_sA, hK_sJ, hK_sO, hI_sI, hI_sR, hI_sA, hI_sJ, hI_sO, hR_sI, hR_sR, hR_sA, hR_sJ, hR_sO, hN_sI, hN_sR, hN_sA, hN_sJ, hN_sO, hA_sI, hA_sR, hA_sA, hA_sJ, hA_sO, hJ_sI, hJ_sR, hJ_sA, hJ_sJ, hJ_sO, hO_sI, hO_sR, hO_sA, hO_sJ, hO_sO, up3_eq, up2_eq, List.map_cons, List.map_nil, List.sum_cons, List.sum_nil, List.nil_append, List.cons_append, Option.toList_some, Option.toList_none, true_and, and_true, if_true, if_false, and_self, true_or, or_true, or_false, false_or, false_and, and_false, not_true_eq_false, not_false_eq_true, forall_const, reduceCtorEq, implies_true, List.contains_cons, List.contains_nil, Bool.or_false, Bool.false_or, Bool.or_true, Bool.true_or, Bool.and_true, Bool.true_and, Bool.and_false, Bool.false_and, Bool.not_true, Bool.not_false, BEq.rfl, Bool.false_eq_true, Bool.true_eq_false, eq_self, ↓reduceIte, Nat.reduceAdd, Nat.reduceEqDiff, Nat.reduceBEq, Nat.reduceLT, Nat.reduceLeDiff, Nat.reduceSub, Nat.reduceMul, Nat.reduceBNe, List.append_nil, Nat.zero_le, Nat.zero_add, Nat.zero_ne_one, Nat.one_ne_zero, false_implies, true_implies, not_false_eq_true, ne_eq, upd_e, updL_e, bI_zo, nI0z, nI1o, nI1z, nI0o, nI0q, nI1q, nm1_lt, nm1_ge, ax_iconst tX5_groundsHolding_0, ax_istore_n tX5_groundsHolding_1, ax_iconst tX5_groundsHolding_2, ax_istore tX5_groundsHolding_3, ax_iconst tX5_groundsHolding_5, ax_istore tX5_groundsHolding_6, ax_iload tX5_groundsHolding_8, ax_aload_n tX5_groundsHolding_10, ax_getI tX5_groundsHolding_11, ax_icmp_ge tX5_groundsHolding_14, ax_iload_n tX5_groundsHolding_17, ax_aload_n tX5_groundsHolding_18, ax_getR tX5_groundsHolding_19, ax_iload tX5_groundsHolding_22, ax_iaload tX5_groundsHolding_24, ax_ishr tX5_groundsHolding_25, ax_iconst tX5_groundsHolding_26, ax_iand tX5_groundsHolding_27, ax_if_eq tX5_groundsHolding_28, ax_iconst tX5_groundsHolding_31, ax_goto tX5_groundsHolding_32, ax_iconst tX5_groundsHolding_35, ax_istore tX5_groundsHolding_36, ax_iload tX5_groundsHolding_38, ax_if_ne tX5_groundsHolding_40, ax_aload_n tX5_groundsHolding_43, ax_iload tX5_groundsHolding_44, ax_aload_n tX5_groundsHolding_46, ax_getR tX5_groundsHolding_47, ax_iload tX5_groundsHolding_50, ax_iaload tX5_groundsHolding_52, ax_aload_n tX5_groundsHolding_53, ax_iload_n tX5_groundsHolding_54, ax_callV4 tX5_groundsHolding_55, ax_if_eq tX5_groundsHolding_58, ax_iload_n tX5_groundsHolding_61, ax_iconst tX5_groundsHolding_62, ax_aload_n tX5_groundsHolding_63, ax_getR tX5_groundsHolding_64, ax_iload tX5_groundsHolding_67, ax_iaload tX5_groundsHolding_69, ax_ishl tX5_groundsHolding_70, ax_ior tX5_groundsHolding_71, ax_istore_n tX5_groundsHolding_72, ax_aload_n tX5_groundsHolding_73, ax_getR tX5_groundsHolding_74, ax_iload tX5_groundsHolding_77, ax_iaload tX5_groundsHolding_79, ax_istore tX5_groundsHolding_80, ax_iinc tX5_groundsHolding_82, ax_goto tX5_groundsHolding_85, ax_iload_n tX5_groundsHolding_88, ax_iretI tX5_groundsHolding_89, f_30, k0, i0]
    simp (disch := omega) only [z0, o1, nI_add, pk_mul, nI_ltI, nI_leI, nI_eq, nI_clamp, vpn, pk_sub, Nat.add_sub_cancel, bI_0, bI_1, eq_self, true_or, or_true, or_false, false_or, true_and, and_true, false_and, and_false, and_self, or_self, forall_const, not_true_eq_false, not_false_eq_true, false_implies, implies_true, true_implies, ↓reduceIte, if_true, if_false, Nat.not_lt_zero, Nat.zero_le, Nat.le_refl, Nat.lt_irrefl, ne_eq, reduceCtorEq, Bool.false_eq_true]
    exact hq F
  intro q
  induction q with
  | zero => intro i F h1 h2; exact fin i F (by omega)
  | succ q ih =>
    intro i F h1 h2
    by_cases ei : i = rl.length
    · exact fin i F ei
    have hi : i < rl.length := by omega
    obtain ⟨t, s1, s2⟩ := cdG_split hi
    obtain ⟨a1, a2⟩ := al i hi
    have hm : rl.getD i (0, []) ∈ rl := by
      rw [List.getD_eq_getElem?_getD, List.getElem?_eq_getElem hi]
      exact List.getElem_mem hi
    obtain ⟨g9, gc⟩ := hg _ hm
    have ml := gmk_lt (kn := knP now pg dy fo th) (fun l hm => (hg l hm).1) i (by omega)
    have len := congrArg List.length s1
    have len2 := congrArg List.length s2
    simp only [List.length_append] at len len2
    have K := fun F => ih (i + 1) F (by omega) (by omega)
    have tl : ∀ F M, gmk rl (knP now pg dy fo th) (i + 1) = M → gG B mX5_groundsHolding (d + 4) 0 0 73 [(0, .ref (z 0)), (1, .ref (zp 0)), (2, .int (nI now)), (3, .int (nI M)), (5, .int (nI i))] [] (sA h 12 (z 5) F) Q := by
      intro F M eM
      have K' := K F
      rw [eM] at K'
      refine gAx (cut := [(8, [0, 1, 2, 3, 4, 5])]) okX5_groundsHolding 60 ?_
      simp only [axC_nil, axC_hit, axC_def, cutAt, lvLive, Option.isSome_none, Option.isSome_some, catS, lvGet, lvIns, lvSet1, lvSet2, gLit_0, gLit_1, lv_args, fv0, fv1, fv2, fv3, isI_s, isL_s, isRf_s, isRf_n, gtI_s, gtL_s, gtV_s, gFilter_nil, gFilter_cons, gL1, gL2, gL3, gL4, gL5, va_rf_s, va_rf_n, hK_sI, hK_sR, hK_sA, hK_sJ, hK_sO, hI_sI, hI_sR, hI_sA, hI_sJ, hI_sO, hR_sI, hR_sR, hR_sA, hR_sJ, hR_sO, hN_sI, hN_sR, hN_sA, hN_sJ, hN_sO, hA_sI, hA_sR, hA_sA, hA_sJ, hA_sO, hJ_sI, hJ_sR, hJ_sA, hJ_sJ, hJ_sO, hO_sI, hO_sR, hO_sA, hO_sJ, hO_sO, up3_eq, up2_eq, List.map_cons, List.map_nil, List.sum_cons, List.sum_nil, List.nil_append, List.cons_append, Option.toList_some, Option.toList_none, true_and, and_true, if_true, if_false, and_self, true_or, or_true, or_false, false_or, false_and, and_false, not_true_eq_false, not_false_eq_true, forall_const, reduceCtorEq, implies_true, List.contains_cons, List.contains_nil, Bool.or_false, Bool.false_or, Bool.or_true, Bool.true_or, Bool.and_true, Bool.true_and, Bool.and_false, Bool.false_and, Bool.not_true, Bool.not_false, BEq.rfl, Bool.false_eq_true, Bool.true_eq_false, eq_self, ↓reduceIte, Nat.reduceAdd, Nat.reduceEqDiff, Nat.reduceBEq, Nat.reduceLT, Nat.reduceLeDiff, Nat.reduceSub, Nat.reduceMul, Nat.reduceBNe, List.append_nil, Nat.zero_le, Nat.zero_add, Nat.zero_ne_one, Nat.one_ne_zero, false_implies, true_implies, not_false_eq_true, ne_eq, upd_e, updL_e, bI_zo, nI0z, nI1o, nI1z, nI0o, nI0q, nI1q, nm1_lt, nm1_ge, ax_iconst tX5_groundsHolding_0, ax_istore_n tX5_groundsHolding_1, ax_iconst tX5_groundsHolding_2, ax_istore tX5_groundsHolding_3, ax_iconst tX5_groundsHolding_5, ax_istore tX5_groundsHolding_6, ax_iload tX5_groundsHolding_8, ax_aload_n tX5_groundsHolding_10, ax_getI tX5_groundsHolding_11, ax_icmp_ge tX5_groundsHolding_14, ax_iload_n tX5_groundsHolding_17, ax_aload_n tX5_groundsHolding_18, ax_getR tX5_groundsHolding_19, ax_iload tX5_groundsHolding_22, ax_iaload tX5_groundsHolding_24, ax_ishr tX5_groundsHolding_25, ax_iconst tX5_groundsHolding_26, ax_iand tX5_groundsHolding_27, ax_if_eq tX5_groundsHolding_28, ax_iconst tX5_groundsHolding_31, ax_goto tX5_groundsHolding_32, ax_iconst tX5_groundsHolding_35, ax_istore tX5_groundsHolding_36, ax_iload tX5_groundsHolding_38, ax_if_ne tX5_groundsHolding_40, ax_aload_n tX5_groundsHolding_43, ax_iload tX5_groundsHolding_44, ax_aload_n tX5_groundsHolding_46, ax_getR tX5_groundsHolding_47, ax_iload tX5_groundsHolding_50, ax_iaload tX5_groundsHolding_52, ax_aload_n tX5_groundsHolding_53, ax_iload_n tX5_groundsHolding_54, ax_callV4 tX5_groundsHolding_55, ax_if_eq tX5_groundsHolding_58, ax_iload_n tX5_groundsHolding_61, ax_iconst tX5_groundsHolding_62, ax_aload_n tX5_groundsHolding_63, ax_getR tX5_groundsHolding_64, ax_iload tX5_groundsHolding_67, ax_iaload tX5_groundsHolding_69, ax_ishl tX5_groundsHolding_70, ax_ior tX5_groundsHolding_71, ax_istore_n tX5_groundsHolding_72, ax_aload_n tX5_groundsHolding_73, ax_getR tX5_groundsHolding_74, ax_iload tX5_groundsHolding_77, ax_iaload tX5_groundsHolding_79, ax_istore tX5_groundsHolding_80, ax_iinc tX5_groundsHolding_82, ax_goto tX5_groundsHolding_85, ax_iload_n tX5_groundsHolding_88, ax_iretI tX5_groundsHolding_89, f_30, k0, r2, k2, n2, d25]
      simp (disch := omega) only [z0, o1, nI_add, pk_mul, nI_ltI, nI_leI, nI_eq, nI_clamp, vpn, pk_sub, Nat.add_sub_cancel, bI_0, bI_1, eq_self, true_or, or_true, or_false, false_or, true_and, and_true, false_and, and_false, and_self, or_self, forall_const, not_true_eq_false, not_false_eq_true, false_implies, implies_true, true_implies, ↓reduceIte, if_true, if_false, Nat.not_lt_zero, Nat.zero_le, Nat.le_refl, Nat.lt_irrefl, ne_eq, reduceCtorEq, Bool.false_eq_true]
      rw [a2]
      exact ⟨by omega, K'⟩
    clear K ih
    unfold gmk at tl
    have eb : (nI (gmk rl (knP now pg dy fo th) i) >>> (nI (rl.getD i (0, [])).1 &&& 31)) &&& nI 1 = nI (gmk rl (knP now pg dy fo th) i / 2 ^ (rl.getD i (0, [])).1 % 2) := gr_bit' ml g9
    refine gAx (cut := [(73, [0, 1, 2, 3, 5])]) okX5_groundsHolding 60 ?_
    simp only [axC_nil, axC_hit, axC_def, cutAt, lvLive, Option.isSome_none, Option.isSome_some, catS, lvGet, lvIns, lvSet1, lvSet2, gLit_0, gLit_1, lv_args, fv0, fv1, fv2, fv3, isI_s, isL_s, isRf_s, isRf_n, gtI_s, gtL_s, gtV_s, gFilter_nil, gFilter_cons, gL1, gL2, gL3, gL4, gL5, va_rf_s, va_rf_n, hK_sI, hK_sR, hK_sA, hK_sJ, hK_sO, hI_sI, hI_sR, hI_sA, hI_sJ, hI_sO, hR_sI, hR_sR, hR_sA, hR_sJ, hR_sO, hN_sI, hN_sR, hN_sA, hN_sJ, hN_sO, hA_sI, hA_sR, hA_sA, hA_sJ, hA_sO, hJ_sI, hJ_sR, hJ_sA, hJ_sJ, hJ_sO, hO_sI, hO_sR, hO_sA, hO_sJ, hO_sO, up3_eq, up2_eq, List.map_cons, List.map_nil, List.sum_cons, List.sum_nil, List.nil_append, List.cons_append, Option.toList_some, Option.toList_none, true_and, and_true, if_true, if_false, and_self, true_or, or_true, or_false, false_or, false_and, and_false, not_true_eq_false, not_false_eq_true, forall_const, reduceCtorEq, implies_true, List.contains_cons, List.contains_nil, Bool.or_false, Bool.false_or, Bool.or_true, Bool.true_or, Bool.and_true, Bool.true_and, Bool.and_false, Bool.false_and, Bool.not_true, Bool.not_false, BEq.rfl, Bool.false_eq_true, Bool.true_eq_false, eq_self, ↓reduceIte, Nat.reduceAdd, Nat.reduceEqDiff, Nat.reduceBEq, Nat.reduceLT, Nat.reduceLeDiff, Nat.reduceSub, Nat.reduceMul, Nat.reduceBNe, List.append_nil, Nat.zero_le, Nat.zero_add, Nat.zero_ne_one, Nat.one_ne_zero, false_implies, true_implies, not_false_eq_true, ne_eq, upd_e, updL_e, bI_zo, nI0z, nI1o, nI1z, nI0o, nI0q, nI1q, nm1_lt, nm1_ge, ax_iconst tX5_groundsHolding_0, ax_istore_n tX5_groundsHolding_1, ax_iconst tX5_groundsHolding_2, ax_istore tX5_groundsHolding_3, ax_iconst tX5_groundsHolding_5, ax_istore tX5_groundsHolding_6, ax_iload tX5_groundsHolding_8, ax_aload_n tX5_groundsHolding_10, ax_getI tX5_groundsHolding_11, ax_icmp_ge tX5_groundsHolding_14, ax_iload_n tX5_groundsHolding_17, ax_aload_n tX5_groundsHolding_18, ax_getR tX5_groundsHolding_19, ax_iload tX5_groundsHolding_22, ax_iaload tX5_groundsHolding_24, ax_ishr tX5_groundsHolding_25, ax_iconst tX5_groundsHolding_26, ax_iand tX5_groundsHolding_27, ax_if_eq tX5_groundsHolding_28, ax_iconst tX5_groundsHolding_31, ax_goto tX5_groundsHolding_32, ax_iconst tX5_groundsHolding_35, ax_istore tX5_groundsHolding_36, ax_iload tX5_groundsHolding_38, ax_if_ne tX5_groundsHolding_40, ax_aload_n tX5_groundsHolding_43, ax_iload tX5_groundsHolding_44, ax_aload_n tX5_groundsHolding_46, ax_getR tX5_groundsHolding_47, ax_iload tX5_groundsHolding_50, ax_iaload tX5_groundsHolding_52, ax_aload_n tX5_groundsHolding_53, ax_iload_n tX5_groundsHolding_54, ax_callV4 tX5_groundsHolding_55, ax_if_eq tX5_groundsHolding_58, ax_iload_n tX5_groundsHolding_61, ax_iconst tX5_groundsHolding_62, ax_aload_n tX5_groundsHolding_63, ax_getR tX5_groundsHolding_64, ax_iload tX5_groundsHolding_67, ax_iaload tX5_groundsHolding_69, ax_ishl tX5_groundsHolding_70, ax_ior tX5_groundsHolding_71, ax_istore_n tX5_groundsHolding_72, ax_aload_n tX5_groundsHolding_73, ax_getR tX5_groundsHolding_74, ax_iload tX5_groundsHolding_77, ax_iaload tX5_groundsHolding_79, ax_istore tX5_groundsHolding_80, ax_iinc tX5_groundsHolding_82, ax_goto tX5_groundsHolding_85, ax_iload_n tX5_groundsHolding_88, ax_iretI tX5_groundsHolding_89, f_30, k0, i0, r1, r2, k1, k2, n1, n2, d15, d25]
    simp (disch := omega) only [z0, o1, nI_add, pk_mul, nI_ltI, nI_leI, nI_eq, nI_clamp, vpn, pk_sub, Nat.add_sub_cancel, bI_0, bI_1, eq_self, true_or, or_true, or_false, false_or, true_and, and_true, false_and, and_false, and_self, or_self, forall_const, not_true_eq_false, not_false_eq_true, false_implies, implies_true, true_implies, ↓reduceIte, if_true, if_false, Nat.not_lt_zero, Nat.zero_le, Nat.le_refl, Nat.lt_irrefl, ne_eq, reduceCtorEq, Bool.false_eq_true]
    rw [a1, a2, eb]
    simp (disch := omega) only [z0, o1, nI_add, pk_mul, nI_ltI, nI_leI, nI_eq, nI_clamp, vpn, pk_sub, Nat.add_sub_cancel, bI_0, bI_1, eq_self, true_or, or_true, or_false, false_or, true_and, and_true, false_and, and_false, and_self, or_self, forall_const, not_true_eq_false, not_false_eq_true, false_implies, implies_true, true_implies, ↓reduceIte, if_true, if_false, Nat.not_lt_zero, Nat.zero_le, Nat.le_refl, Nat.lt_irrefl, ne_eq, reduceCtorEq, Bool.false_eq_true]
    refine ⟨fun c => absurd c (by omega), fun _ => ⟨by omega, fun c => ⟨by omega, ?_⟩, fun c => ?_⟩⟩
    · have hb : bitG (gmk rl (knP now pg dy fo th) i) (rl.getD i (0, [])).1 = false := bitG_0.mp c
      rw [len2]
      refine x_valueOf (hr'.X hd) hd hp hdn hn (by omega) (fun k hk => ?_) gc (fun F2 => ?_)
      · have := ac ((cdG (rl.take i)).length + k) (by omega)
        rw [hA_sA, up2_eq, if_neg (by rw [hd 3 5 (by omega) (by omega)]; omega), this, s1, List.getD_eq_getElem?_getD, List.getElem?_append_right (by omega), Nat.add_sub_cancel_left, List.getElem?_append_left hk, ← List.getD_eq_getElem?_getD]
      · rw [sA_sA]
        have T := tl F2
        rw [if_neg (by rw [hb]; exact Bool.false_ne_true)] at T
        refine gAx (cut := [(73, [0, 1, 2, 3, 5])]) okX5_groundsHolding 60 ?_
        simp only [axC_nil, axC_hit, axC_def, cutAt, lvLive, Option.isSome_none, Option.isSome_some, catS, lvGet, lvIns, lvSet1, lvSet2, gLit_0, gLit_1, lv_args, fv0, fv1, fv2, fv3, isI_s, isL_s, isRf_s, isRf_n, gtI_s, gtL_s, gtV_s, gFilter_nil, gFilter_cons, gL1, gL2, gL3, gL4, gL5, va_rf_s, va_rf_n, hK_sI, hK_sR, hK_sA, hK_sJ, hK_sO, hI_sI, hI_sR, hI_sA, hI_sJ, hI_sO, hR_sI, hR_sR, hR_sA, hR_sJ, hR_sO, hN_sI, hN_sR, hN_sA, hN_sJ, hN_sO, hA_sI, hA_sR, hA_sA, hA_sJ, hA_sO, hJ_sI, hJ_sR, hJ_sA, hJ_sJ, hJ_sO, hO_sI, hO_sR, hO_sA, hO_sJ, hO_sO, up3_eq, up2_eq, List.map_cons, List.map_nil, List.sum_cons, List.sum_nil, List.nil_append, List.cons_append, Option.toList_some, Option.toList_none, true_and, and_true, if_true, if_false, and_self, true_or, or_true, or_false, false_or, false_and, and_false, not_true_eq_false, not_false_eq_true, forall_const, reduceCtorEq, implies_true, List.contains_cons, List.contains_nil, Bool.or_false, Bool.false_or, Bool.or_true, Bool.true_or, Bool.and_true, Bool.true_and, Bool.and_false, Bool.false_and, Bool.not_true, Bool.not_false, BEq.rfl, Bool.false_eq_true, Bool.true_eq_false, eq_self, ↓reduceIte, Nat.reduceAdd, Nat.reduceEqDiff, Nat.reduceBEq, Nat.reduceLT, Nat.reduceLeDiff, Nat.reduceSub, Nat.reduceMul, Nat.reduceBNe, List.append_nil, Nat.zero_le, Nat.zero_add, Nat.zero_ne_one, Nat.one_ne_zero, false_implies, true_implies, not_false_eq_true, ne_eq, upd_e, updL_e, bI_zo, nI0z, nI1o, nI1z, nI0o, nI0q, nI1q, nm1_lt, nm1_ge, ax_iconst tX5_groundsHolding_0, ax_istore_n tX5_groundsHolding_1, ax_iconst tX5_groundsHolding_2, ax_istore tX5_groundsHolding_3, ax_iconst tX5_groundsHolding_5, ax_istore tX5_groundsHolding_6, ax_iload tX5_groundsHolding_8, ax_aload_n tX5_groundsHolding_10, ax_getI tX5_groundsHolding_11, ax_icmp_ge tX5_groundsHolding_14, ax_iload_n tX5_groundsHolding_17, ax_aload_n tX5_groundsHolding_18, ax_getR tX5_groundsHolding_19, ax_iload tX5_groundsHolding_22, ax_iaload tX5_groundsHolding_24, ax_ishr tX5_groundsHolding_25, ax_iconst tX5_groundsHolding_26, ax_iand tX5_groundsHolding_27, ax_if_eq tX5_groundsHolding_28, ax_iconst tX5_groundsHolding_31, ax_goto tX5_groundsHolding_32, ax_iconst tX5_groundsHolding_35, ax_istore tX5_groundsHolding_36, ax_iload tX5_groundsHolding_38, ax_if_ne tX5_groundsHolding_40, ax_aload_n tX5_groundsHolding_43, ax_iload tX5_groundsHolding_44, ax_aload_n tX5_groundsHolding_46, ax_getR tX5_groundsHolding_47, ax_iload tX5_groundsHolding_50, ax_iaload tX5_groundsHolding_52, ax_aload_n tX5_groundsHolding_53, ax_iload_n tX5_groundsHolding_54, ax_callV4 tX5_groundsHolding_55, ax_if_eq tX5_groundsHolding_58, ax_iload_n tX5_groundsHolding_61, ax_iconst tX5_groundsHolding_62, ax_aload_n tX5_groundsHolding_63, ax_getR tX5_groundsHolding_64, ax_iload tX5_groundsHolding_67, ax_iaload tX5_groundsHolding_69, ax_ishl tX5_groundsHolding_70, ax_ior tX5_groundsHolding_71, ax_istore_n tX5_groundsHolding_72, ax_aload_n tX5_groundsHolding_73, ax_getR tX5_groundsHolding_74, ax_iload tX5_groundsHolding_77, ax_iaload tX5_groundsHolding_79, ax_istore tX5_groundsHolding_80, ax_iinc tX5_groundsHolding_82, ax_goto tX5_groundsHolding_85, ax_iload_n tX5_groundsHolding_88, ax_iretI tX5_groundsHolding_89, f_30, k0, r1, k1, n1, d15]
        simp (disch := omega) only [z0, o1, nI_add, pk_mul, nI_ltI, nI_leI, nI_eq, nI_clamp, vpn, pk_sub, Nat.add_sub_cancel, bI_0, bI_1, eq_self, true_or, or_true, or_false, false_or, true_and, and_true, false_and, and_false, and_self, or_self, forall_const, not_true_eq_false, not_false_eq_true, false_implies, implies_true, true_implies, ↓reduceIte, if_true, if_false, Nat.not_lt_zero, Nat.zero_le, Nat.le_refl, Nat.lt_irrefl, ne_eq, reduceCtorEq, Bool.false_eq_true]
        rw [a1, gr_or' ml g9]
        refine ⟨fun c2 => ?_, fun c2 => ⟨by omega, ?_⟩⟩
        · exact T _ (if_pos c2)
        · exact T _ (if_neg c2)
    · have hb : bitG (gmk rl (knP now pg dy fo th) i) (rl.getD i (0, [])).1 = true := by
        rcases e2 : bitG (gmk rl (knP now pg dy fo th) i) (rl.getD i (0, [])).1
        · exact absurd (bitG_0.mpr e2) c
        · rfl
      exact tl F _ (if_pos hb)
set_option maxRecDepth 100000 in
set_option maxHeartbeats 1600000 in
theorem x_groundsHolding {E e pg dy fo th now : Nat} {f zp : Nat → Nat} (hr : RUO h z rl []) (hd : RUD z) (hp : PAP E h zp e pg dy fo th f) (hdn : dy ≤ now) (hn : now < 2 ^ 31) (hg : ∀ l, l ∈ rl → l.1 ≤ 9 ∧ GC 16 l.2) (hq : ∀ F, Q (some (.int (nI (gmk rl (knP now pg dy fo th) rl.length)))) (sA h 12 (z 5) F)) : gFn B mX5_groundsHolding (d + 4) 0 0 [.ref (z 0), .ref (zp 0), .int (nI now)] h Q := by
  have Lp := x_groundsHolding_loop (B := B) (d := d) hr hd hp hdn hn hg hq rl.length 0 (hA h 12 (z 5)) (by omega) (by omega)
  rw [sA_id] at Lp
  refine gStartX (cut := [(8, [0, 1, 2, 3, 4, 5])]) pnX5_groundsHolding okX5_groundsHolding (Nat.le_of_ble_eq_true rfl) 60 ?_
  simp only [axC_nil, axC_hit, axC_def, cutAt, lvLive, Option.isSome_none, Option.isSome_some, catS, lvGet, lvIns, lvSet1, lvSet2, gLit_0, gLit_1, lv_args, fv0, fv1, fv2, fv3, isI_s, isL_s, isRf_s, isRf_n, gtI_s, gtL_s, gtV_s, gFilter_nil, gFilter_cons, gL1, gL2, gL3, gL4, gL5, va_rf_s, va_rf_n, hK_sI, hK_sR, hK_sA, hK_sJ, hK_sO, hI_sI, hI_sR, hI_sA, hI_sJ, hI_sO, hR_sI, hR_sR, hR_sA, hR_sJ, hR_sO, hN_sI, hN_sR, hN_sA, hN_sJ, hN_sO, hA_sI, hA_sR, hA_sA, hA_sJ, hA_sO, hJ_sI, hJ_sR, hJ_sA, hJ_sJ, hJ_sO, hO_sI, hO_sR, hO_sA, hO_sJ, hO_sO, up3_eq, up2_eq, List.map_cons, List.map_nil, List.sum_cons, List.sum_nil, List.nil_append, List.cons_append, Option.toList_some, Option.toList_none, true_and, and_true, if_true, if_false, and_self, true_or, or_true, or_false, false_or, false_and, and_false, not_true_eq_false, not_false_eq_true, forall_const, reduceCtorEq, implies_true, List.contains_cons, List.contains_nil, Bool.or_false, Bool.false_or, Bool.or_true, Bool.true_or, Bool.and_true, Bool.true_and, Bool.and_false, Bool.false_and, Bool.not_true, Bool.not_false, BEq.rfl, Bool.false_eq_true, Bool.true_eq_false, eq_self, ↓reduceIte, Nat.reduceAdd, Nat.reduceEqDiff, Nat.reduceBEq, Nat.reduceLT, Nat.reduceLeDiff, Nat.reduceSub, Nat.reduceMul, Nat.reduceBNe, List.append_nil, Nat.zero_le, Nat.zero_add, Nat.zero_ne_one, Nat.one_ne_zero, false_implies, true_implies, not_false_eq_true, ne_eq, upd_e, updL_e, bI_zo, nI0z, nI1o, nI1z, nI0o, nI0q, nI1q, nm1_lt, nm1_ge, ax_iconst tX5_groundsHolding_0, ax_istore_n tX5_groundsHolding_1, ax_iconst tX5_groundsHolding_2, ax_istore tX5_groundsHolding_3, ax_iconst tX5_groundsHolding_5, ax_istore tX5_groundsHolding_6, ax_iload tX5_groundsHolding_8, ax_aload_n tX5_groundsHolding_10, ax_getI tX5_groundsHolding_11, ax_icmp_ge tX5_groundsHolding_14, ax_iload_n tX5_groundsHolding_17, ax_aload_n tX5_groundsHolding_18, ax_getR tX5_groundsHolding_19, ax_iload tX5_groundsHolding_22, ax_iaload tX5_groundsHolding_24, ax_ishr tX5_groundsHolding_25, ax_iconst tX5_groundsHolding_26, ax_iand tX5_groundsHolding_27, ax_if_eq tX5_groundsHolding_28, ax_iconst tX5_groundsHolding_31, ax_goto tX5_groundsHolding_32, ax_iconst tX5_groundsHolding_35, ax_istore tX5_groundsHolding_36, ax_iload tX5_groundsHolding_38, ax_if_ne tX5_groundsHolding_40, ax_aload_n tX5_groundsHolding_43, ax_iload tX5_groundsHolding_44, ax_aload_n tX5_groundsHolding_46, ax_getR tX5_groundsHolding_47, ax_iload tX5_groundsHolding_50, ax_iaload tX5_groundsHolding_52, ax_aload_n tX5_groundsHolding_53, ax_iload_n tX5_groundsHolding_54, ax_callV4 tX5_groundsHolding_55, ax_if_eq tX5_groundsHolding_58, ax_iload_n tX5_groundsHolding_61, ax_iconst tX5_groundsHolding_62, ax_aload_n tX5_groundsHolding_63, ax_getR tX5_groundsHolding_64, ax_iload tX5_groundsHolding_67, ax_iaload tX5_groundsHolding_69, ax_ishl tX5_groundsHolding_70, ax_ior tX5_groundsHolding_71, ax_istore_n tX5_groundsHolding_72, ax_aload_n tX5_groundsHolding_73, ax_getR tX5_groundsHolding_74, ax_iload tX5_groundsHolding_77, ax_iaload tX5_groundsHolding_79, ax_istore tX5_groundsHolding_80, ax_iinc tX5_groundsHolding_82, ax_goto tX5_groundsHolding_85, ax_iload_n tX5_groundsHolding_88, ax_iretI tX5_groundsHolding_89, f_30]
  exact Lp
end CLSJ
