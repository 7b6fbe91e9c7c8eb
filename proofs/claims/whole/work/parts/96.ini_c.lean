/-! CONSTRUCTORS: the desk, as a whole -/
section INIC
variable {B : gB} {h0 : gHp} {d E mi : Nat} {Q : Option Value → gHp → Prop} {s : Nat → Nat} {a : Nat → Nat → Nat} {u : Nat} {ow0 : Nat → gTag}
def dkY (u y1 y3 l5 l6 l7 l8 l9 : Nat) (zt za zb : Nat → Nat) : gYm := fun r i k => if r = 0 then (if i = 0 then u else if i = 1 then y1 else if i = 3 then y3 else if i = 5 then l5 else if i = 6 then l6 else if i = 7 then l7 else if i = 8 then l8 else l9) else if r = 7 then zt k else if r = 8 then (if i = 0 then za k else zb k) else 0
set_option maxRecDepth 100000 in
set_option maxHeartbeats 3200000 in
theorem DS_new {h : gHp} {y1 y3 l5 l6 l7 l8 l9 : Nat} {zt za zb : Nat → Nat} {ow : Nat → gTag} (hs : s 24 = 0 ∧ s 25 = 1 ∧ s 44 = 0 ∧ s 27 = 0 ∧ s 31 = 0 ∧ s 36 = 0 ∧ s 46 = 0 ∧ s 57 = 0 ∧ s 2 = 0) (ha : (∀ j, a 43 j = 0) ∧ a 1 = fun _ => 0)
    (al : ∀ p : Nat × gTag, p ∈ [(u, (0, 0, 0)), (y1, (0, 1, 0)), (y3, (0, 3, 0)), (l5, (0, 5, 0)), (l6, (0, 6, 0)), (l7, (0, 7, 0)), (l8, (0, 8, 0)), (l9, (0, 9, 0)), (zt 0, (7, 0, 0)), (zt 2, (7, 0, 2)), (zt 3, (7, 0, 3)), (zt 4, (7, 0, 4)), (za 0, (8, 0, 0)), (za 1, (8, 0, 1)), (za 2, (8, 0, 2)), (za 3, (8, 0, 3)), (za 5, (8, 0, 5)), (zb 0, (8, 1, 0)), (zb 1, (8, 1, 1)), (zb 2, (8, 1, 2)), (zb 3, (8, 1, 3)), (zb 5, (8, 1, 5))] → hK h p.1 ≠ 0 ∧ ow p.1 = p.2)
    (ku : hK h u = 10) (i0 : hI h 9 0 u = nI 0) (i2 : hI h 9 2 u = nI 1) (i4 : hI h 9 4 u = nI 0) (i10 : hI h 9 10 u = nI 0) (rr : hR h 9 1 u = some y1 ∧ hR h 9 3 u = some y3 ∧ hR h 9 5 u = some l5 ∧ hR h 9 6 u = some l6 ∧ hR h 9 7 u = some l7 ∧ hR h 9 8 u = some l8 ∧ hR h 9 9 u = some l9) (r2 : hR h 9 11 u = some (zt 0) ∧ hR h 9 12 u = some (za 0) ∧ hR h 9 13 u = some (zb 0))
    (k1 : hK h y1 = 12 ∧ hN h y1 = 20) (z1 : hA h 12 y1 0 = -nI 1) (k3 : hK h y3 = 12 ∧ hN h y3 = 12) (L5 : ∀ f e ci, LST E h l5 e 0 ci f) (L6 : ∀ f e ci, LST E h l6 e 0 ci f) (L7 : ∀ f e ci, LST E h l7 e 0 ci f) (L8 : ∀ f e ci, LST E h l8 e 0 ci f) (L9 : ∀ f e ci, LST E h l9 e 0 ci f) (tp : TAP h zt 0 (fun _ => 0)) (ra : RUO h za [] []) (rb : RUO h zb [] []) : DS E (dkY u y1 y3 l5 l6 l7 l8 l9 zt za zb) ow 0 [] h s a := by
  obtain ⟨s24, s25, s44, s27, s31, s36, s46, s57, s2⟩ := hs
  refine ⟨?_, ⟨ku, by rw [s24]; exact i0, by rw [s25]; exact i2, by rw [s44]; exact i4, rr, r2, 0, by omega, i10, fun k _ => by rw [ha.1 k]; simp⟩, ⟨k1.1, k1.2, z1, fun g h1 h2 => by omega⟩, ⟨k3.1, k3.2, fun k hk => by omega⟩, trivial, ?_, fun p hp => by omega, fun g hg => by omega, fun t ht => by omega, fun b hb => by omega, fun i hi => by omega, ?_, ⟨by omega, ra, rb.S⟩⟩
  · intro r i k hv
    match r, hv with
    | 0, hv =>
      have ek : k = 0 := hv.1
      subst ek
      have hi : i = 0 ∨ i = 1 ∨ i = 3 ∨ i = 5 ∨ i = 6 ∨ i = 7 ∨ i = 8 ∨ i = 9 := hv.2
      rcases hi with rfl | rfl | rfl | rfl | rfl | rfl | rfl | rfl
      · exact al (u, (0, 0, 0)) (by simp)
      · exact al (y1, (0, 1, 0)) (by simp)
      · exact al (y3, (0, 3, 0)) (by simp)
      · exact al (l5, (0, 5, 0)) (by simp)
      · exact al (l6, (0, 6, 0)) (by simp)
      · exact al (l7, (0, 7, 0)) (by simp)
      · exact al (l8, (0, 8, 0)) (by simp)
      · exact al (l9, (0, 9, 0)) (by simp)
    | 1, hv =>
      have := hv.2
      omega
    | 2, hv =>
      have := hv.1
      omega
    | 3, hv =>
      have := hv.1
      omega
    | 4, hv =>
      have := hv.1
      omega
    | 5, hv =>
      have := hv.1
      omega
    | 6, hv =>
      have := hv.1
      omega
    | 7, hv =>
      have ei : i = 0 := hv.1
      subst ei
      have hk : k = 0 ∨ k = 2 ∨ k = 3 ∨ k = 4 := hv.2
      rcases hk with rfl | rfl | rfl | rfl
      · exact al (zt 0, (7, 0, 0)) (by simp)
      · exact al (zt 2, (7, 0, 2)) (by simp)
      · exact al (zt 3, (7, 0, 3)) (by simp)
      · exact al (zt 4, (7, 0, 4)) (by simp)
    | 8, hv =>
      have hi : i ≤ 1 := hv.1
      have hk : k = 0 ∨ k = 1 ∨ k = 2 ∨ k = 3 ∨ k = 5 := hv.2
      rcases (show i = 0 ∨ i = 1 by omega) with rfl | rfl
      · rcases hk with rfl | rfl | rfl | rfl | rfl
        · exact al (za 0, (8, 0, 0)) (by simp)
        · exact al (za 1, (8, 0, 1)) (by simp)
        · exact al (za 2, (8, 0, 2)) (by simp)
        · exact al (za 3, (8, 0, 3)) (by simp)
        · exact al (za 5, (8, 0, 5)) (by simp)
      · rcases hk with rfl | rfl | rfl | rfl | rfl
        · exact al (zb 0, (8, 1, 0)) (by simp)
        · exact al (zb 1, (8, 1, 1)) (by simp)
        · exact al (zb 2, (8, 1, 2)) (by simp)
        · exact al (zb 3, (8, 1, 3)) (by simp)
        · exact al (zb 5, (8, 1, 5)) (by simp)
    | (n + 9), hv => exact hv.elim
  · unfold DL
    rw [s27, s31, s36, s46, s57]
    exact ⟨L5 _ _ _, L6 _ _ _, L7 _ _ _, L8 _ _ _, L9 _ _ _⟩
  · unfold DU
    rw [s2, ha.2]
    exact tp
set_option maxRecDepth 100000 in
set_option maxHeartbeats 3200000 in
theorem x_desk_init (hX : gXt B E mi) (hNn : gXn B) (ku : hK h0 u = 10) (hs : s 24 = 0 ∧ s 25 = 1 ∧ s 44 = 0 ∧ s 27 = 0 ∧ s 31 = 0 ∧ s 36 = 0 ∧ s 46 = 0 ∧ s 57 = 0 ∧ s 2 = 0) (ha : (∀ j, a 43 j = 0) ∧ a 1 = fun _ => 0) (hq : ∀ h' Y ow', Y 0 0 0 = u → DS E Y ow' 0 [] h' s a → (∀ b, hK h0 b ≠ 0 → b ≠ u → SAM h0 h' b) → (∀ b, hK h0 b ≠ 0 → hK h' b = hK h0 b) → (∀ b, hK h0 b ≠ 0 → b ≠ u → ow' b = ow0 b) → Q none h') : gFn B mX8_init (d + 6) 30 3400 [.ref u] h0 Q := by
  refine gStartX (cut := []) pnX8_init okX8_init (Nat.le_of_ble_eq_true rfl) 60 ?_
  simp only [axC_nil, axC_hit, axC_def, cutAt, lvLive, Option.isSome_none, Option.isSome_some, catS, lvGet, lvIns, lvSet1, lvSet2, gLit_0, gLit_1, lv_args, fv0, fv1, fv2, fv3, isI_s, isL_s, isRf_s, isRf_n, gtI_s, gtL_s, gtV_s, gFilter_nil, gFilter_cons, gL1, gL2, gL3, gL4, gL5, va_rf_s, va_rf_n, hK_sI, hK_sR, hK_sA, hK_sJ, hK_sO, hI_sI, hI_sR, hI_sA, hI_sJ, hI_sO, hR_sI, hR_sR, hR_sA, hR_sJ, hR_sO, hN_sI, hN_sR, hN_sA, hN_sJ, hN_sO, hA_sI, hA_sR, hA_sA, hA_sJ, hA_sO, hJ_sI, hJ_sR, hJ_sA, hJ_sJ, hJ_sO, hO_sI, hO_sR, hO_sA, hO_sJ, hO_sO, up3_eq, up2_eq, List.map_cons, List.map_nil, List.sum_cons, List.sum_nil, List.nil_append, List.cons_append, Option.toList_some, Option.toList_none, true_and, and_true, if_true, if_false, and_self, true_or, or_true, or_false, false_or, false_and, and_false, not_true_eq_false, not_false_eq_true, forall_const, reduceCtorEq, implies_true, List.contains_cons, List.contains_nil, Bool.or_false, Bool.false_or, Bool.or_true, Bool.true_or, Bool.and_true, Bool.true_and, Bool.and_false, Bool.false_and, Bool.not_true, Bool.not_false, BEq.rfl, Bool.false_eq_true, Bool.true_eq_false, eq_self, ↓reduceIte, Nat.reduceAdd, Nat.reduceEqDiff, Nat.reduceBEq, Nat.reduceLT, Nat.reduceLeDiff, Nat.reduceSub, Nat.reduceMul, Nat.reduceBNe, List.append_nil, Nat.zero_le, Nat.zero_add, Nat.zero_ne_one, Nat.one_ne_zero, false_implies, true_implies, not_false_eq_true, ne_eq, upd_e, updL_e, bI_zo, nI0z, nI1o, nI1z, nI0o, nI0q, nI1q, nm1_lt, nm1_ge, ax_aload_n tX8_init_0, ax_obj tX8_init_1, ax_aload_n tX8_init_4, ax_iconst tX8_init_5, ax_putI tX8_init_6, ax_aload_n tX8_init_9, ax_bipush tX8_init_10, ax_newarray tX8_init_12, ax_putR tX8_init_14, ax_putN tX8_init_14, ax_aload_n tX8_init_17, ax_iconst tX8_init_18, ax_putI tX8_init_19, ax_aload_n tX8_init_22, ax_bipush tX8_init_23, ax_newarray tX8_init_25, ax_putR tX8_init_27, ax_putN tX8_init_27, ax_aload_n tX8_init_30, ax_iconst tX8_init_31, ax_putI tX8_init_32, ax_aload_n tX8_init_35, ax_new tX8_init_36, ax_dup tX8_init_39, ax_callI0 rfl rfl tX8_init_40, ax_putR tX8_init_43, ax_putN tX8_init_43, ax_aload_n tX8_init_46, ax_new tX8_init_47, ax_dup tX8_init_50, ax_callI0 rfl rfl tX8_init_51, ax_putR tX8_init_54, ax_putN tX8_init_54, ax_aload_n tX8_init_57, ax_new tX8_init_58, ax_dup tX8_init_61, ax_callI0 rfl rfl tX8_init_62, ax_putR tX8_init_65, ax_putN tX8_init_65, ax_aload_n tX8_init_68, ax_new tX8_init_69, ax_dup tX8_init_72, ax_callI0 rfl rfl tX8_init_73, ax_putR tX8_init_76, ax_putN tX8_init_76, ax_aload_n tX8_init_79, ax_new tX8_init_80, ax_dup tX8_init_83, ax_callI0 rfl rfl tX8_init_84, ax_putR tX8_init_87, ax_putN tX8_init_87, ax_aload_n tX8_init_90, ax_iconst tX8_init_91, ax_putI tX8_init_92, ax_aload_n tX8_init_95, ax_new tX8_init_96, ax_dup tX8_init_99, ax_putR tX8_init_103, ax_putN tX8_init_103, ax_aload_n tX8_init_106, ax_new tX8_init_107, ax_dup tX8_init_110, ax_putR tX8_init_114, ax_putN tX8_init_114, ax_aload_n tX8_init_117, ax_new tX8_init_118, ax_dup tX8_init_121, ax_putR tX8_init_125, ax_putN tX8_init_125, ax_aload_n tX8_init_128, ax_getR tX8_init_129, ax_iconst tX8_init_132, ax_iconst tX8_init_133, ax_iastore tX8_init_134, ax_vret tX8_init_135, f_187]
  refine gAx (cut := [(9, [0])]) okX8_init 60 ?_
  simp only [axC_nil, axC_hit, axC_def, cutAt, lvLive, Option.isSome_none, Option.isSome_some, catS, lvGet, lvIns, lvSet1, lvSet2, gLit_0, gLit_1, lv_args, fv0, fv1, fv2, fv3, isI_s, isL_s, isRf_s, isRf_n, gtI_s, gtL_s, gtV_s, gFilter_nil, gFilter_cons, gL1, gL2, gL3, gL4, gL5, va_rf_s, va_rf_n, hK_sI, hK_sR, hK_sA, hK_sJ, hK_sO, hI_sI, hI_sR, hI_sA, hI_sJ, hI_sO, hR_sI, hR_sR, hR_sA, hR_sJ, hR_sO, hN_sI, hN_sR, hN_sA, hN_sJ, hN_sO, hA_sI, hA_sR, hA_sA, hA_sJ, hA_sO, hJ_sI, hJ_sR, hJ_sA, hJ_sJ, hJ_sO, hO_sI, hO_sR, hO_sA, hO_sJ, hO_sO, up3_eq, up2_eq, List.map_cons, List.map_nil, List.sum_cons, List.sum_nil, List.nil_append, List.cons_append, Option.toList_some, Option.toList_none, true_and, and_true, if_true, if_false, and_self, true_or, or_true, or_false, false_or, false_and, and_false, not_true_eq_false, not_false_eq_true, forall_const, reduceCtorEq, implies_true, List.contains_cons, List.contains_nil, Bool.or_false, Bool.false_or, Bool.or_true, Bool.true_or, Bool.and_true, Bool.true_and, Bool.and_false, Bool.false_and, Bool.not_true, Bool.not_false, BEq.rfl, Bool.false_eq_true, Bool.true_eq_false, eq_self, ↓reduceIte, Nat.reduceAdd, Nat.reduceEqDiff, Nat.reduceBEq, Nat.reduceLT, Nat.reduceLeDiff, Nat.reduceSub, Nat.reduceMul, Nat.reduceBNe, List.append_nil, Nat.zero_le, Nat.zero_add, Nat.zero_ne_one, Nat.one_ne_zero, false_implies, true_implies, not_false_eq_true, ne_eq, upd_e, updL_e, bI_zo, nI0z, nI1o, nI1z, nI0o, nI0q, nI1q, nm1_lt, nm1_ge, ax_aload_n tX8_init_0, ax_obj tX8_init_1, ax_aload_n tX8_init_4, ax_iconst tX8_init_5, ax_putI tX8_init_6, ax_aload_n tX8_init_9, ax_bipush tX8_init_10, ax_newarray tX8_init_12, ax_putR tX8_init_14, ax_putN tX8_init_14, ax_aload_n tX8_init_17, ax_iconst tX8_init_18, ax_putI tX8_init_19, ax_aload_n tX8_init_22, ax_bipush tX8_init_23, ax_newarray tX8_init_25, ax_putR tX8_init_27, ax_putN tX8_init_27, ax_aload_n tX8_init_30, ax_iconst tX8_init_31, ax_putI tX8_init_32, ax_aload_n tX8_init_35, ax_new tX8_init_36, ax_dup tX8_init_39, ax_callI0 rfl rfl tX8_init_40, ax_putR tX8_init_43, ax_putN tX8_init_43, ax_aload_n tX8_init_46, ax_new tX8_init_47, ax_dup tX8_init_50, ax_callI0 rfl rfl tX8_init_51, ax_putR tX8_init_54, ax_putN tX8_init_54, ax_aload_n tX8_init_57, ax_new tX8_init_58, ax_dup tX8_init_61, ax_callI0 rfl rfl tX8_init_62, ax_putR tX8_init_65, ax_putN tX8_init_65, ax_aload_n tX8_init_68, ax_new tX8_init_69, ax_dup tX8_init_72, ax_callI0 rfl rfl tX8_init_73, ax_putR tX8_init_76, ax_putN tX8_init_76, ax_aload_n tX8_init_79, ax_new tX8_init_80, ax_dup tX8_init_83, ax_callI0 rfl rfl tX8_init_84, ax_putR tX8_init_87, ax_putN tX8_init_87, ax_aload_n tX8_init_90, ax_iconst tX8_init_91, ax_putI tX8_init_92, ax_aload_n tX8_init_95, ax_new tX8_init_96, ax_dup tX8_init_99, ax_putR tX8_init_103, ax_putN tX8_init_103, ax_aload_n tX8_init_106, ax_new tX8_init_107, ax_dup tX8_init_110, ax_putR tX8_init_114, ax_putN tX8_init_114, ax_aload_n tX8_init_117, ax_new tX8_init_118, ax_dup tX8_init_121, ax_putR tX8_init_125, ax_putN tX8_init_125, ax_aload_n tX8_init_128, ax_getR tX8_init_129, ax_iconst tX8_init_132, ax_iconst tX8_init_133, ax_iastore tX8_init_134, ax_vret tX8_init_135, f_187, ku]
  have I0 : IDV h0 u ow0 (sI h0 9 0 u (nI 0)) [(u, (0, 0, 0))] [] [(0, nI 0)] (fun _ => True) := by
    refine ⟨ku, ⟨va_up ow0 u (0, 0, 0), fun p hp => ?_, fun b _ q => by rw [va_up_eq, if_neg q]⟩, fun p hp => absurd hp List.not_mem_nil, fun p hp => ?_, trivial, fun _ _ _ _ => trivial, fun _ _ => rfl, fun b hb q => ⟨rfl, rfl, fun c j => by rw [hI_sI, up3_eq, if_neg (fun w => q w.2.2)], fun _ _ => rfl, fun _ => rfl, fun _ => rfl, rfl⟩⟩
    · rw [List.mem_singleton.mp hp]
      exact ⟨by show hK h0 u ≠ 0; omega, by rw [va_up_eq, if_pos rfl]⟩
    · rw [List.mem_singleton.mp hp]
      simp [hI_sI, up3_eq]
  generalize sI h0 9 0 u (nI 0) = h1 at I0
  refine gG_wd (c' := 29 + 1) (n' := 3380 + 20) (by omega) (by omega) (di_9 I0 (by simp) (fun y1 h2 n1 fr1 I1 => ?_))
  refine di_17 I1 (by simp) (fun h3 I2 => ?_)
  refine gG_wd (c' := 28 + 1) (n' := 3368 + 12) (by omega) (by omega) (di_22 I2 (by simp) (fun y3 h4 n3 _ I3 => ?_))
  refine di_30 I3 (by simp) (fun h5 I4 => ?_)
  refine gG_wd (c' := 27 + 1) (n' := 3365 + 3) (by omega) (by omega) (di_35 hX I4 (by simp) (fun l5 h6 m5 I5 => ?_))
  refine gG_wd (c' := 26 + 1) (n' := 3362 + 3) (by omega) (by omega) (di_46 hX I5 (by simp) (fun l6 h7 m6 I6 => ?_))
  refine gG_wd (c' := 25 + 1) (n' := 3359 + 3) (by omega) (by omega) (di_57 hX I6 (by simp) (fun l7 h8 m7 I7 => ?_))
  refine gG_wd (c' := 24 + 1) (n' := 3356 + 3) (by omega) (by omega) (di_68 hX I7 (by simp) (fun l8 h9 m8 I8 => ?_))
  refine gG_wd (c' := 23 + 1) (n' := 3353 + 3) (by omega) (by omega) (di_79 hX I8 (by simp) (fun l9 h10 m9 I9 => ?_))
  refine di_90 I9 (by simp) (fun h11 I10 => ?_)
  refine gG_wd (c' := 3 + 19 + 1) (n' := 1802 + 1547 + 4) (by omega) (by omega) (di_95 hNn I10 (by simp) (fun zt h12 I11 => ?_))
  refine gG_wd (c' := 4 + 14 + 1) (n' := 648 + 893 + 6) (by omega) (by omega) (di_106 hNn I11 (by simp) (fun za h13 I12 => ?_))
  refine gG_wd (c' := 4 + 9 + 1) (n' := 648 + 239 + 6) (by omega) (by omega) (di_117 hNn I12 (by simp) (fun zb h14 I13 => ?_))
  obtain ⟨kU, ⟨ow, al, wo⟩, ul, ui, ⟨⟨⟨⟨⟨⟨⟨⟨⟨⟨-, p1⟩, p3⟩, p5⟩, p6⟩, p7⟩, p8⟩, p9⟩, pt⟩, pa⟩, pb⟩, -, kk, ss⟩ := I13
  have u1 := ul (1, some y1) (by simp)
  refine gAx (cut := []) okX8_init 60 ?_
  simp only [axC_nil, axC_hit, axC_def, cutAt, lvLive, Option.isSome_none, Option.isSome_some, catS, lvGet, lvIns, lvSet1, lvSet2, gLit_0, gLit_1, lv_args, fv0, fv1, fv2, fv3, isI_s, isL_s, isRf_s, isRf_n, gtI_s, gtL_s, gtV_s, gFilter_nil, gFilter_cons, gL1, gL2, gL3, gL4, gL5, va_rf_s, va_rf_n, hK_sI, hK_sR, hK_sA, hK_sJ, hK_sO, hI_sI, hI_sR, hI_sA, hI_sJ, hI_sO, hR_sI, hR_sR, hR_sA, hR_sJ, hR_sO, hN_sI, hN_sR, hN_sA, hN_sJ, hN_sO, hA_sI, hA_sR, hA_sA, hA_sJ, hA_sO, hJ_sI, hJ_sR, hJ_sA, hJ_sJ, hJ_sO, hO_sI, hO_sR, hO_sA, hO_sJ, hO_sO, up3_eq, up2_eq, List.map_cons, List.map_nil, List.sum_cons, List.sum_nil, List.nil_append, List.cons_append, Option.toList_some, Option.toList_none, true_and, and_true, if_true, if_false, and_self, true_or, or_true, or_false, false_or, false_and, and_false, not_true_eq_false, not_false_eq_true, forall_const, reduceCtorEq, implies_true, List.contains_cons, List.contains_nil, Bool.or_false, Bool.false_or, Bool.or_true, Bool.true_or, Bool.and_true, Bool.true_and, Bool.and_false, Bool.false_and, Bool.not_true, Bool.not_false, BEq.rfl, Bool.false_eq_true, Bool.true_eq_false, eq_self, ↓reduceIte, Nat.reduceAdd, Nat.reduceEqDiff, Nat.reduceBEq, Nat.reduceLT, Nat.reduceLeDiff, Nat.reduceSub, Nat.reduceMul, Nat.reduceBNe, List.append_nil, Nat.zero_le, Nat.zero_add, Nat.zero_ne_one, Nat.one_ne_zero, false_implies, true_implies, not_false_eq_true, ne_eq, upd_e, updL_e, bI_zo, nI0z, nI1o, nI1z, nI0o, nI0q, nI1q, nm1_lt, nm1_ge, ax_aload_n tX8_init_0, ax_obj tX8_init_1, ax_aload_n tX8_init_4, ax_iconst tX8_init_5, ax_putI tX8_init_6, ax_aload_n tX8_init_9, ax_bipush tX8_init_10, ax_newarray tX8_init_12, ax_putR tX8_init_14, ax_putN tX8_init_14, ax_aload_n tX8_init_17, ax_iconst tX8_init_18, ax_putI tX8_init_19, ax_aload_n tX8_init_22, ax_bipush tX8_init_23, ax_newarray tX8_init_25, ax_putR tX8_init_27, ax_putN tX8_init_27, ax_aload_n tX8_init_30, ax_iconst tX8_init_31, ax_putI tX8_init_32, ax_aload_n tX8_init_35, ax_new tX8_init_36, ax_dup tX8_init_39, ax_callI0 rfl rfl tX8_init_40, ax_putR tX8_init_43, ax_putN tX8_init_43, ax_aload_n tX8_init_46, ax_new tX8_init_47, ax_dup tX8_init_50, ax_callI0 rfl rfl tX8_init_51, ax_putR tX8_init_54, ax_putN tX8_init_54, ax_aload_n tX8_init_57, ax_new tX8_init_58, ax_dup tX8_init_61, ax_callI0 rfl rfl tX8_init_62, ax_putR tX8_init_65, ax_putN tX8_init_65, ax_aload_n tX8_init_68, ax_new tX8_init_69, ax_dup tX8_init_72, ax_callI0 rfl rfl tX8_init_73, ax_putR tX8_init_76, ax_putN tX8_init_76, ax_aload_n tX8_init_79, ax_new tX8_init_80, ax_dup tX8_init_83, ax_callI0 rfl rfl tX8_init_84, ax_putR tX8_init_87, ax_putN tX8_init_87, ax_aload_n tX8_init_90, ax_iconst tX8_init_91, ax_putI tX8_init_92, ax_aload_n tX8_init_95, ax_new tX8_init_96, ax_dup tX8_init_99, ax_putR tX8_init_103, ax_putN tX8_init_103, ax_aload_n tX8_init_106, ax_new tX8_init_107, ax_dup tX8_init_110, ax_putR tX8_init_114, ax_putN tX8_init_114, ax_aload_n tX8_init_117, ax_new tX8_init_118, ax_dup tX8_init_121, ax_putR tX8_init_125, ax_putN tX8_init_125, ax_aload_n tX8_init_128, ax_getR tX8_init_129, ax_iconst tX8_init_132, ax_iconst tX8_init_133, ax_iastore tX8_init_134, ax_vret tX8_init_135, f_187, kU, u1, p1.1, p1.2]
  try simp (disch := omega) only [z0, o1, nI_add, pk_mul, nI_ltI, nI_leI, nI_eq, nI_clamp, vpn, pk_sub, Nat.add_sub_cancel, bI_0, bI_1, eq_self, true_or, or_true, or_false, false_or, true_and, and_true, false_and, and_false, and_self, or_self, forall_const, not_true_eq_false, not_false_eq_true, false_implies, implies_true, true_implies, ↓reduceIte, if_true, if_false, Nat.not_lt_zero, Nat.zero_le, Nat.le_refl, Nat.lt_irrefl, ne_eq, reduceCtorEq, Bool.false_eq_true]
  refine ⟨by omega, ?_⟩
  have nA1 : ∀ b, b ≠ y1 → SAM h14 (sA h14 12 y1 (upd (hA h14 12 y1) 0 (-nI 1))) b := fun b q => ⟨rfl, rfl, fun _ _ => rfl, fun _ _ => rfl, fun t => by rw [hA_sA, up2_eq, if_neg (fun w => q w.2)], fun _ => rfl, rfl⟩
  have y10 : hK h0 y1 = 0 := by
    rcases Nat.eq_zero_or_pos (hK h0 y1) with q | q
    · exact q
    · have := I0.2.2.2.2.2.2.1 y1 (by omega)
      omega
  have ruo : ∀ z, RUO h14 z [] [] → RUO (sA h14 12 y1 (upd (hA h14 12 y1) 0 (-nI 1))) z [] [] := fun z q => ⟨q.1, q.2.1, q.2.2.1, fun k hk => by simp [cdG] at hk, fun i hi => by simp at hi⟩
  have D := DS_new (h := sA h14 12 y1 (upd (hA h14 12 y1) 0 (-nI 1))) (ow := ow) (E := E) (a := a) (y1 := y1) (y3 := y3) (l5 := l5) (l6 := l6) (l7 := l7) (l8 := l8) (l9 := l9) (zt := zt) (za := za) (zb := zb) hs ha (fun p hp => al p (by
    simp only [List.mem_cons, List.not_mem_nil, or_false] at hp
    simp only [List.mem_cons, List.mem_append, List.not_mem_nil, or_false]
    rcases hp with rfl | rfl | rfl | rfl | rfl | rfl | rfl | rfl | rfl | rfl | rfl | rfl | rfl | rfl | rfl | rfl | rfl | rfl | rfl | rfl | rfl | rfl <;> simp)) kU (ui (0, nI 0) (by simp)) (ui (2, nI 1) (by simp)) (ui (4, nI 0) (by simp)) (ui (10, nI 0) (by simp)) ⟨u1, ul (3, some y3) (by simp), ul (5, some l5) (by simp), ul (6, some l6) (by simp), ul (7, some l7) (by simp), ul (8, some l8) (by simp), ul (9, some l9) (by simp)⟩ ⟨ul (11, some (zt 0)) (by simp), ul (12, some (za 0)) (by simp), ul (13, some (zb 0)) (by simp)⟩ p1 (by simp [hA_sA, up2_eq, upd_e]) p3 p5 p6 p7 p8 p9 ⟨pt.1, pt.2.1, fun k hk => by omega, pt.2.2.2⟩ (ruo za pa) (ruo zb pb)
  exact hq _ _ ow rfl D (fun b hb q => (ss b hb q).tr (nA1 b (fun e => hb (by rw [e]; exact y10)))) kk wo
end INIC
