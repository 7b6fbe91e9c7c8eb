/-! CONSTRUCTORS: the reference, whole -/
theorem ir_lt {k : Nat} (h : gIsR 10 k = true) : k < 64 := by
  have e : ∀ q : Nat, q ∈ gRefs.getD 10 [] → q < 64 := by decide
  exact e k (by simpa [gIsR] using h)
section INIE
variable {B : gB} {h0 : gHp} {d : Nat} {Q : Option Value → gHp → Prop} {x : Nat}
set_option maxRecDepth 100000 in
set_option maxHeartbeats 4000000 in
theorem x_ref_init (ku : hK h0 x = 11) (hz : ∀ k, hI h0 10 k x = nI 0) (hq : ∀ h' xa, RS x xa h' sIi aI → (∀ k, gIsR 10 k = true → hK h0 (xa k) = 0 ∧ xa k ≠ x) → (∀ b, hK h0 b ≠ 0 → b ≠ x → SAM h0 h' b) → (∀ b, hK h0 b ≠ 0 → hK h' b = hK h0 b) → Q none h') : gFn B mX9_init (d + 1) 47 116846 [.ref x] h0 Q := by
  refine gStartX (cut := []) pnX9_init okX9_init (Nat.le_of_ble_eq_true rfl) 10 ?_
  simp only [axC_nil, axC_hit, axC_def, cutAt, lvLive, Option.isSome_none, Option.isSome_some, catS, lvGet, lvIns, lvSet1, lvSet2, gLit_0, gLit_1, lv_args, fv0, fv1, fv2, fv3, isI_s, isL_s, isRf_s, isRf_n, gtI_s, gtL_s, gtV_s, gFilter_nil, gFilter_cons, gL1, gL2, gL3, gL4, gL5, va_rf_s, va_rf_n, hK_sI, hK_sR, hK_sA, hK_sJ, hK_sO, hI_sI, hI_sR, hI_sA, hI_sJ, hI_sO, hR_sI, hR_sR, hR_sA, hR_sJ, hR_sO, hN_sI, hN_sR, hN_sA, hN_sJ, hN_sO, hA_sI, hA_sR, hA_sA, hA_sJ, hA_sO, hJ_sI, hJ_sR, hJ_sA, hJ_sJ, hJ_sO, hO_sI, hO_sR, hO_sA, hO_sJ, hO_sO, up3_eq, up2_eq, List.map_cons, List.map_nil, List.sum_cons, List.sum_nil, List.nil_append, List.cons_append, Option.toList_some, Option.toList_none, true_and, and_true, if_true, if_false, and_self, true_or, or_true, or_false, false_or, false_and, and_false, not_true_eq_false, not_false_eq_true, forall_const, reduceCtorEq, implies_true, List.contains_cons, List.contains_nil, Bool.or_false, Bool.false_or, Bool.or_true, Bool.true_or, Bool.and_true, Bool.true_and, Bool.and_false, Bool.false_and, Bool.not_true, Bool.not_false, BEq.rfl, Bool.false_eq_true, Bool.true_eq_false, eq_self, ↓reduceIte, Nat.reduceAdd, Nat.reduceEqDiff, Nat.reduceBEq, Nat.reduceLT, Nat.reduceLeDiff, Nat.reduceSub, Nat.reduceMul, Nat.reduceBNe, List.append_nil, Nat.zero_le, Nat.zero_add, Nat.zero_ne_one, Nat.one_ne_zero, false_implies, true_implies, not_false_eq_true, ne_eq, upd_e, updL_e, bI_zo, nI0z, nI1o, nI1z, nI0o, nI0q, nI1q, nm1_lt, nm1_ge, ax_aload_n tX9_init_0, ax_obj tX9_init_1]
  try simp (disch := omega) only [z0, o1, nI_add, pk_mul, nI_ltI, nI_leI, nI_eq, nI_clamp, vpn, pk_sub, Nat.add_sub_cancel, bI_0, bI_1, eq_self, true_or, or_true, or_false, false_or, true_and, and_true, false_and, and_false, and_self, or_self, forall_const, not_true_eq_false, not_false_eq_true, false_implies, implies_true, true_implies, ↓reduceIte, if_true, if_false, Nat.not_lt_zero, Nat.zero_le, Nat.le_refl, Nat.lt_irrefl, ne_eq, reduceCtorEq, Bool.false_eq_true]
  have I0 : RIN h0 x h0 [] (fun _ => 0) (fun _ => 0) := ⟨ku, fun k hk => absurd hk List.not_mem_nil, fun i j hi => absurd hi List.not_mem_nil, fun k => hz k, fun _ _ => rfl, fun b _ _ => SAM.rf _ b⟩
  refine gG_wd (c' := 46 + 1) (n' := 116246 + 600) (by omega) (by omega) (ri_4 I0 (by decide) (fun y1 h1 I1 => ?_))
  refine gG_wd (c' := 45 + 1) (n' := 115644 + 602) (by omega) (by omega) (ri_13 I1 (by decide) (fun y4 h2 I2 => ?_))
  refine gG_wd (c' := 44 + 1) (n' := 115042 + 602) (by omega) (by omega) (ri_22 I2 (by decide) (fun y5 h3 I3 => ?_))
  refine gG_wd (c' := 43 + 1) (n' := 114440 + 602) (by omega) (by omega) (ri_31 I3 (by decide) (fun y6 h4 I4 => ?_))
  refine gG_wd (c' := 42 + 1) (n' := 114432 + 8) (by omega) (by omega) (ri_40 I4 (by decide) (fun y9 h5 I5 => ?_))
  refine gG_wd (c' := 41 + 1) (n' := 114430 + 2) (by omega) (by omega) (ri_98 I5 (by decide) (fun y10 h6 I6 => ?_))
  refine gG_wd (c' := 40 + 1) (n' := 114398 + 32) (by omega) (by omega) (ri_105 I6 (by decide) (fun y11 h7 I7 => ?_))
  refine gG_wd (c' := 39 + 1) (n' := 114366 + 32) (by omega) (by omega) (ri_113 I7 (by decide) (fun y12 h8 I8 => ?_))
  refine gG_wd (c' := 38 + 1) (n' := 113046 + 1320) (by omega) (by omega) (ri_121 I8 (by decide) (fun y13 h9 I9 => ?_))
  refine gG_wd (c' := 37 + 1) (n' := 111726 + 1320) (by omega) (by omega) (ri_130 I9 (by decide) (fun y14 h10 I10 => ?_))
  refine gG_wd (c' := 36 + 1) (n' := 111719 + 7) (by omega) (by omega) (ri_139 I10 (by decide) (fun y19 h11 I11 => ?_))
  refine gG_wd (c' := 35 + 1) (n' := 111712 + 7) (by omega) (by omega) (ri_147 I11 (by decide) (fun y20 h12 I12 => ?_))
  refine gG_wd (c' := 34 + 1) (n' := 111705 + 7) (by omega) (by omega) (ri_155 I12 (by decide) (fun y21 h13 I13 => ?_))
  refine gG_wd (c' := 33 + 1) (n' := 111700 + 5) (by omega) (by omega) (ri_163 I13 (by decide) (fun y22 h14 I14 => ?_))
  refine gG_wd (c' := 32 + 1) (n' := 111040 + 660) (by omega) (by omega) (ri_170 I14 (by decide) (fun y23 h15 I15 => ?_))
  refine ri_179 I15 (fun h16 I16 => ?_)
  refine gG_wd (c' := 31 + 1) (n' := 111020 + 20) (by omega) (by omega) (ri_184 I16 (by decide) (fun y26 h17 I17 => ?_))
  refine gG_wd (c' := 30 + 1) (n' := 110980 + 40) (by omega) (by omega) (ri_192 I17 (by decide) (fun y28 h18 I18 => ?_))
  refine gG_wd (c' := 29 + 1) (n' := 110940 + 40) (by omega) (by omega) (ri_200 I18 (by decide) (fun y29 h19 I19 => ?_))
  refine gG_wd (c' := 28 + 1) (n' := 110900 + 40) (by omega) (by omega) (ri_208 I19 (by decide) (fun y30 h20 I20 => ?_))
  refine gG_wd (c' := 27 + 1) (n' := 110780 + 120) (by omega) (by omega) (ri_216 I20 (by decide) (fun y32 h21 I21 => ?_))
  refine gG_wd (c' := 26 + 1) (n' := 110660 + 120) (by omega) (by omega) (ri_224 I21 (by decide) (fun y33 h22 I22 => ?_))
  refine gG_wd (c' := 25 + 1) (n' := 110540 + 120) (by omega) (by omega) (ri_232 I22 (by decide) (fun y34 h23 I23 => ?_))
  refine gG_wd (c' := 24 + 1) (n' := 109100 + 1440) (by omega) (by omega) (ri_240 I23 (by decide) (fun y35 h24 I24 => ?_))
  refine gG_wd (c' := 23 + 1) (n' := 108980 + 120) (by omega) (by omega) (ri_249 I24 (by decide) (fun y37 h25 I25 => ?_))
  refine gG_wd (c' := 22 + 1) (n' := 108860 + 120) (by omega) (by omega) (ri_257 I25 (by decide) (fun y38 h26 I26 => ?_))
  refine gG_wd (c' := 21 + 1) (n' := 108740 + 120) (by omega) (by omega) (ri_265 I26 (by decide) (fun y39 h27 I27 => ?_))
  refine gG_wd (c' := 20 + 1) (n' := 108260 + 480) (by omega) (by omega) (ri_273 I27 (by decide) (fun y40 h28 I28 => ?_))
  refine gG_wd (c' := 19 + 1) (n' := 107780 + 480) (by omega) (by omega) (ri_282 I28 (by decide) (fun y41 h29 I29 => ?_))
  refine gG_wd (c' := 18 + 1) (n' := 107300 + 480) (by omega) (by omega) (ri_291 I29 (by decide) (fun y42 h30 I30 => ?_))
  refine gG_wd (c' := 17 + 1) (n' := 107292 + 8) (by omega) (by omega) (ri_300 I30 (by decide) (fun y43 h31 I31 => ?_))
  refine gG_wd (c' := 16 + 1) (n' := 107280 + 12) (by omega) (by omega) (ri_308 I31 (by decide) (fun y45 h32 I32 => ?_))
  refine gG_wd (c' := 15 + 1) (n' := 107260 + 20) (by omega) (by omega) (ri_316 I32 (by decide) (fun y47 h33 I33 => ?_))
  refine gG_wd (c' := 14 + 1) (n' := 107240 + 20) (by omega) (by omega) (ri_324 I33 (by decide) (fun y48 h34 I34 => ?_))
  refine gG_wd (c' := 13 + 1) (n' := 107220 + 20) (by omega) (by omega) (ri_332 I34 (by decide) (fun y49 h35 I35 => ?_))
  refine gG_wd (c' := 12 + 1) (n' := 107200 + 20) (by omega) (by omega) (ri_340 I35 (by decide) (fun y50 h36 I36 => ?_))
  refine gG_wd (c' := 11 + 1) (n' := 107120 + 80) (by omega) (by omega) (ri_348 I36 (by decide) (fun y51 h37 I37 => ?_))
  refine gG_wd (c' := 10 + 1) (n' := 107100 + 20) (by omega) (by omega) (ri_356 I37 (by decide) (fun y52 h38 I38 => ?_))
  refine gG_wd (c' := 9 + 1) (n' := 107080 + 20) (by omega) (by omega) (ri_364 I38 (by decide) (fun y53 h39 I39 => ?_))
  refine gG_wd (c' := 8 + 1) (n' := 107060 + 20) (by omega) (by omega) (ri_372 I39 (by decide) (fun y54 h40 I40 => ?_))
  refine gG_wd (c' := 7 + 1) (n' := 7060 + 100000) (by omega) (by omega) (ri_380 I40 (by decide) (fun y55 h41 I41 => ?_))
  refine gG_wd (c' := 6 + 1) (n' := 4660 + 2400) (by omega) (by omega) (ri_388 I41 (by decide) (fun y56 h42 I42 => ?_))
  refine gG_wd (c' := 5 + 1) (n' := 4360 + 300) (by omega) (by omega) (ri_397 I42 (by decide) (fun y58 h43 I43 => ?_))
  refine gG_wd (c' := 4 + 1) (n' := 4060 + 300) (by omega) (by omega) (ri_406 I43 (by decide) (fun y59 h44 I44 => ?_))
  refine gG_wd (c' := 3 + 1) (n' := 3760 + 300) (by omega) (by omega) (ri_415 I44 (by decide) (fun y60 h45 I45 => ?_))
  refine gG_wd (c' := 2 + 1) (n' := 160 + 3600) (by omega) (by omega) (ri_424 I45 (by decide) (fun y61 h46 I46 => ?_))
  refine gG_wd (c' := 1 + 1) (n' := 120 + 40) (by omega) (by omega) (ri_433 I46 (by decide) (fun y62 h47 I47 => ?_))
  refine gG_wd (c' := 0 + 1) (n' := 0 + 120) (by omega) (by omega) (ri_441 I47 (by decide) (fun y63 h48 I48 => ?_))
  refine gAx (cut := []) okX9_init 10 ?_
  simp only [axC_nil, axC_hit, axC_def, cutAt, lvLive, Option.isSome_none, Option.isSome_some, catS, lvGet, lvIns, lvSet1, lvSet2, gLit_0, gLit_1, lv_args, fv0, fv1, fv2, fv3, isI_s, isL_s, isRf_s, isRf_n, gtI_s, gtL_s, gtV_s, gFilter_nil, gFilter_cons, gL1, gL2, gL3, gL4, gL5, va_rf_s, va_rf_n, hK_sI, hK_sR, hK_sA, hK_sJ, hK_sO, hI_sI, hI_sR, hI_sA, hI_sJ, hI_sO, hR_sI, hR_sR, hR_sA, hR_sJ, hR_sO, hN_sI, hN_sR, hN_sA, hN_sJ, hN_sO, hA_sI, hA_sR, hA_sA, hA_sJ, hA_sO, hJ_sI, hJ_sR, hJ_sA, hJ_sJ, hJ_sO, hO_sI, hO_sR, hO_sA, hO_sJ, hO_sO, up3_eq, up2_eq, List.map_cons, List.map_nil, List.sum_cons, List.sum_nil, List.nil_append, List.cons_append, Option.toList_some, Option.toList_none, true_and, and_true, if_true, if_false, and_self, true_or, or_true, or_false, false_or, false_and, and_false, not_true_eq_false, not_false_eq_true, forall_const, reduceCtorEq, implies_true, List.contains_cons, List.contains_nil, Bool.or_false, Bool.false_or, Bool.or_true, Bool.true_or, Bool.and_true, Bool.true_and, Bool.and_false, Bool.false_and, Bool.not_true, Bool.not_false, BEq.rfl, Bool.false_eq_true, Bool.true_eq_false, eq_self, ↓reduceIte, Nat.reduceAdd, Nat.reduceEqDiff, Nat.reduceBEq, Nat.reduceLT, Nat.reduceLeDiff, Nat.reduceSub, Nat.reduceMul, Nat.reduceBNe, List.append_nil, Nat.zero_le, Nat.zero_add, Nat.zero_ne_one, Nat.one_ne_zero, false_implies, true_implies, not_false_eq_true, ne_eq, upd_e, updL_e, bI_zo, nI0z, nI1o, nI1z, nI0o, nI0q, nI1q, nm1_lt, nm1_ge, ax_vret tX9_init_449]
  try simp (disch := omega) only [z0, o1, nI_add, pk_mul, nI_ltI, nI_leI, nI_eq, nI_clamp, vpn, pk_sub, Nat.add_sub_cancel, bI_0, bI_1, eq_self, true_or, or_true, or_false, false_or, true_and, and_true, false_and, and_false, and_self, or_self, forall_const, not_true_eq_false, not_false_eq_true, false_implies, implies_true, true_implies, ↓reduceIte, if_true, if_false, Nat.not_lt_zero, Nat.zero_le, Nat.le_refl, Nat.lt_irrefl, ne_eq, reduceCtorEq, Bool.false_eq_true]
  have hall : ∀ i : Fin 64, gIsR 10 i.val = true → i.val ∈ [63, 62, 61, 60, 59, 58, 56, 55, 54, 53, 52, 51, 50, 49, 48, 47, 45, 43, 42, 41, 40, 39, 38, 37, 35, 34, 33, 32, 30, 29, 28, 26, 23, 22, 21, 20, 19, 14, 13, 12, 11, 10, 9, 6, 5, 4, 1] := by decide
  revert I48
  generalize h48 = h'
  generalize e : (va_up (va_up (va_up (va_up (va_up (va_up (va_up (va_up (va_up (va_up (va_up (va_up (va_up (va_up (va_up (va_up (va_up (va_up (va_up (va_up (va_up (va_up (va_up (va_up (va_up (va_up (va_up (va_up (va_up (va_up (va_up (va_up (va_up (va_up (va_up (va_up (va_up (va_up (va_up (va_up (va_up (va_up (va_up (va_up (va_up (va_up (va_up (fun _ => 0) 1 y1) 4 y4) 5 y5) 6 y6) 9 y9) 10 y10) 11 y11) 12 y12) 13 y13) 14 y14) 19 y19) 20 y20) 21 y21) 22 y22) 23 y23) 26 y26) 28 y28) 29 y29) 30 y30) 32 y32) 33 y33) 34 y34) 35 y35) 37 y37) 38 y38) 39 y39) 40 y40) 41 y41) 42 y42) 43 y43) 45 y45) 47 y47) 48 y48) 49 y49) 50 y50) 51 y51) 52 y52) 53 y53) 54 y54) 55 y55) 56 y56) 58 y58) 59 y59) 60 y60) 61 y61) 62 y62) 63 y63 : Nat → Nat) = xa
  intro I
  obtain ⟨a1, a2, a3, a4, a5, a6⟩ := I
  have al : ∀ k, gIsR 10 k = true → k ∈ [63, 62, 61, 60, 59, 58, 56, 55, 54, 53, 52, 51, 50, 49, 48, 47, 45, 43, 42, 41, 40, 39, 38, 37, 35, 34, 33, 32, 30, 29, 28, 26, 23, 22, 21, 20, 19, 14, 13, 12, 11, 10, 9, 6, 5, 4, 1] := fun k q => hall ⟨k, ir_lt q⟩ q
  have au : ∀ k, rU k ≠ 0 → RAC h' k (xa k) := fun k q => (a2 k (al k (rU_K q).1)).2.1
  refine hq h' xa ⟨⟨a1, fun k q => (a2 k (al k q)).1, fun k q => (a2 k (al k q)).2.1.1, fun k q => (a2 k (al k q)).2.1.2.1, fun i j qi qj => ⟨a3 i j (al i qi) (al j qj), fun e => by rw [e]⟩⟩, fun k _ => ?_, fun k j q => (au k (by omega)).2.2.1 q j, fun k j q => (au k (by omega)).2.2.2.1 q j, fun k j q => (au k (by omega)).2.2.2.2.1 q j, fun k j q => (au k (by omega)).2.2.2.2.2 q j, fun k j q => ?_⟩ (fun k q => ⟨(a2 k (al k q)).2.2.2.2, (a2 k (al k q)).2.2.1⟩) a6 a5
  · rw [a4, va_up_eq, sIi]
  · have n9 : k ≠ 9 := fun e => q (by rw [e]; decide)
    rw [aI]
    split
    · omega
    · first | omega | (rw [if_neg n9]; omega)
end INIE
