/-! THE LAW: its beginning -/
section LAWI
variable {B : gB} {E mi : Nat} {b L : Nat} {xs : Nat → Int32} {h0 : gHp} {Q : Option Value → gHp → Prop} {sK sV : Nat → Nat}
theorem DS.wo {Y : gYm} {ow ow2 : Nat → gTag} {v : Nat} {rl : List (Nat × List (Nat × Nat))} {h : gHp} {s : Nat → Nat} {a : Nat → Nat → Nat} (hd : DS E Y ow v rl h s a) (w : ∀ b, hK h b ≠ 0 → ow2 b = ow b) : DS E Y ow2 v rl h s a := ⟨fun r i k q => ⟨(hd.1 r i k q).1, by rw [w _ (hd.1 r i k q).1]; exact (hd.1 r i k q).2⟩, hd.2⟩
theorem rK_n0 {k : Nat} (q : gIsR 10 k = true) : rK k ≠ 0 := by
  have e : ∀ i : Fin 64, gIsR 10 i.val = true → rK i.val ≠ 0 := by decide
  exact e ⟨k, ir_lt q⟩ q
set_option maxRecDepth 100000 in
set_option maxHeartbeats 3200000 in
theorem lw_entry (hX : gXt B E mi) (hXs : gXs B sK sV) (hXn : gXn B) (hz : gXz B b L xs) (h20 : ∀ (u x o i c n : Nat) (xa : Nat → Nat) (h : gHp), i + 6 < L → LIV E u x xa o h → (∀ h', LIV E u x xa o h' → gG B mL_law 2048 c n 1116 (lvL b u x o i) [] h' Q) → gG B mL_law 2048 (1 + c) (6 + n) 986 (lvL b u x o i) [] h Q) (hQ : ∀ h, Q (some (.int (nI 1))) h) (he : ∀ a, hK h0 a = 0) : gG B mL_law 2048 601024 7293034 0 [(0, .ref b)] [] h0 Q := by
  have hL := hz.2.1
  refine gAx (cut := [(4, [0])]) okL_law 10 ?_
  simp only [axC_nil, axC_hit, axC_def, cutAt, lvLive, Option.isSome_none, Option.isSome_some, catS, lvGet, lvIns, lvSet1, lvSet2, gLit_0, gLit_1, lv_args, fv0, fv1, fv2, fv3, isI_s, isL_s, isRf_s, isRf_n, gtI_s, gtL_s, gtV_s, gFilter_nil, gFilter_cons, gL1, gL2, gL3, gL4, gL5, va_rf_s, va_rf_n, hK_sI, hK_sR, hK_sA, hK_sJ, hK_sO, hI_sI, hI_sR, hI_sA, hI_sJ, hI_sO, hR_sI, hR_sR, hR_sA, hR_sJ, hR_sO, hN_sI, hN_sR, hN_sA, hN_sJ, hN_sO, hA_sI, hA_sR, hA_sA, hA_sJ, hA_sO, hJ_sI, hJ_sR, hJ_sA, hJ_sJ, hJ_sO, hO_sI, hO_sR, hO_sA, hO_sJ, hO_sO, up3_eq, up2_eq, List.map_cons, List.map_nil, List.sum_cons, List.sum_nil, List.nil_append, List.cons_append, Option.toList_some, Option.toList_none, true_and, and_true, if_true, if_false, and_self, true_or, or_true, or_false, false_or, false_and, and_false, not_true_eq_false, not_false_eq_true, forall_const, reduceCtorEq, implies_true, List.contains_cons, List.contains_nil, Bool.or_false, Bool.false_or, Bool.or_true, Bool.true_or, Bool.and_true, Bool.true_and, Bool.and_false, Bool.false_and, Bool.not_true, Bool.not_false, BEq.rfl, Bool.false_eq_true, Bool.true_eq_false, eq_self, ↓reduceIte, Nat.reduceAdd, Nat.reduceEqDiff, Nat.reduceBEq, Nat.reduceLT, Nat.reduceLeDiff, Nat.reduceSub, Nat.reduceMul, Nat.reduceBNe, List.append_nil, Nat.zero_le, Nat.zero_add, Nat.zero_ne_one, Nat.one_ne_zero, false_implies, true_implies, not_false_eq_true, ne_eq, upd_e, updL_e, bI_zo, nI0z, nI1o, nI1z, nI0o, nI0q, nI1q, nm1_lt, nm1_ge, ax_new tL_law_0, ax_dup tL_law_3]
  try simp (disch := omega) only [z0, o1, nI_add, pk_mul, nI_ltI, nI_leI, nI_eq, nI_clamp, vpn, pk_sub, Nat.add_sub_cancel, bI_0, bI_1, eq_self, true_or, or_true, or_false, false_or, true_and, and_true, false_and, and_false, and_self, or_self, forall_const, not_true_eq_false, not_false_eq_true, false_implies, implies_true, true_implies, ↓reduceIte, if_true, if_false, Nat.not_lt_zero, Nat.zero_le, Nat.le_refl, Nat.lt_irrefl, ne_eq, reduceCtorEq, Bool.false_eq_true]
  refine ⟨by decide, fun u hu => ?_⟩
  refine gG_wd (c' := 30 + 600000) (n' := 3400 + 7200000) (by omega) (by decide) ?_
  refine gG_callI (f := mX8_init) (okMb_I (gMs_at (r := 59) (by decide)) (by decide)) (gDec okL_law tL_law_4) (gMem (i := 107) rfl rfl) (c1 := 30) (n1 := 3400) (c := 600000) (n := 7200000) (As := []) (rest := [.ref u]) (d1 := 0 + 6) (d := 2048) rfl (by simp [Value.category]) (by omega) ?_
  have ku : hK (nO h0 9 u) u = 10 := by rw [hK_nO, va_up_eq, if_pos rfl]
  refine x_desk_init (d := 0) (s := sIi) (a := aI) (ow0 := fun _ => (0, 0, 0)) hX hXn ku ⟨rfl, rfl, rfl, rfl, rfl, rfl, rfl, rfl, rfl⟩ ⟨fun _ => rfl, rfl⟩ (fun h1 Y ow y0 D s1 k1 _ => ?_)
  show gG B mL_law 2048 600000 7200000 7 [(0, .ref b)] [.ref u] h1 Q
  refine gG_astore_nR (k := 1) (gDec okL_law tL_law_7) (by decide) ?_
  show gG B mL_law 2048 600000 7200000 8 [(0, .ref b), (1, .ref u)] [] h1 Q
  refine gAx (cut := [(12, [0, 1])]) okL_law 10 ?_
  simp only [axC_nil, axC_hit, axC_def, cutAt, lvLive, Option.isSome_none, Option.isSome_some, catS, lvGet, lvIns, lvSet1, lvSet2, gLit_0, gLit_1, lv_args, fv0, fv1, fv2, fv3, isI_s, isL_s, isRf_s, isRf_n, gtI_s, gtL_s, gtV_s, gFilter_nil, gFilter_cons, gL1, gL2, gL3, gL4, gL5, va_rf_s, va_rf_n, hK_sI, hK_sR, hK_sA, hK_sJ, hK_sO, hI_sI, hI_sR, hI_sA, hI_sJ, hI_sO, hR_sI, hR_sR, hR_sA, hR_sJ, hR_sO, hN_sI, hN_sR, hN_sA, hN_sJ, hN_sO, hA_sI, hA_sR, hA_sA, hA_sJ, hA_sO, hJ_sI, hJ_sR, hJ_sA, hJ_sJ, hJ_sO, hO_sI, hO_sR, hO_sA, hO_sJ, hO_sO, up3_eq, up2_eq, List.map_cons, List.map_nil, List.sum_cons, List.sum_nil, List.nil_append, List.cons_append, Option.toList_some, Option.toList_none, true_and, and_true, if_true, if_false, and_self, true_or, or_true, or_false, false_or, false_and, and_false, not_true_eq_false, not_false_eq_true, forall_const, reduceCtorEq, implies_true, List.contains_cons, List.contains_nil, Bool.or_false, Bool.false_or, Bool.or_true, Bool.true_or, Bool.and_true, Bool.true_and, Bool.and_false, Bool.false_and, Bool.not_true, Bool.not_false, BEq.rfl, Bool.false_eq_true, Bool.true_eq_false, eq_self, ↓reduceIte, Nat.reduceAdd, Nat.reduceEqDiff, Nat.reduceBEq, Nat.reduceLT, Nat.reduceLeDiff, Nat.reduceSub, Nat.reduceMul, Nat.reduceBNe, List.append_nil, Nat.zero_le, Nat.zero_add, Nat.zero_ne_one, Nat.one_ne_zero, false_implies, true_implies, not_false_eq_true, ne_eq, upd_e, updL_e, bI_zo, nI0z, nI1o, nI1z, nI0o, nI0q, nI1q, nm1_lt, nm1_ge, ax_new tL_law_8, ax_dup tL_law_11]
  try simp (disch := omega) only [z0, o1, nI_add, pk_mul, nI_ltI, nI_leI, nI_eq, nI_clamp, vpn, pk_sub, Nat.add_sub_cancel, bI_0, bI_1, eq_self, true_or, or_true, or_false, false_or, true_and, and_true, false_and, and_false, and_self, or_self, forall_const, not_true_eq_false, not_false_eq_true, false_implies, implies_true, true_implies, ↓reduceIte, if_true, if_false, Nat.not_lt_zero, Nat.zero_le, Nat.le_refl, Nat.lt_irrefl, ne_eq, reduceCtorEq, Bool.false_eq_true]
  refine ⟨by decide, fun x hx => ?_⟩
  refine gG_wd (c' := 47 + 500000) (n' := 116846 + 7000000) (by omega) (by decide) ?_
  refine gG_callI (f := mX9_init) (okMb_I (gMs_at (r := 102) (by decide)) (by decide)) (gDec okL_law tL_law_12) (gMem (i := 1026) rfl rfl) (c1 := 47) (n1 := 116846) (c := 500000) (n := 7000000) (As := []) (rest := [.ref x]) (d1 := 0 + 1) (d := 2048) rfl (by simp [Value.category]) (by omega) ?_
  have kx : hK (nO h1 10 x) x = 11 := by rw [hK_nO, va_up_eq, if_pos rfl]
  refine x_ref_init (d := 0) kx (fun k => by rw [hI_nO]; show (if 10 = 10 ∧ x = x then (0 : Int32) else _) = _; rw [if_pos ⟨rfl, rfl⟩]; rfl) (fun h3 xa R fx s3 k3 => ?_)
  show gG B mL_law 2048 500000 7000000 15 [(0, .ref b), (1, .ref u)] [.ref x] h3 Q
  refine gG_astore_nR (k := 2) (gDec okL_law tL_law_15) (by decide) ?_
  show gG B mL_law 2048 500000 7000000 16 [(0, .ref b), (1, .ref u), (2, .ref x)] [] h3 Q
  refine gAx (cut := [(19, [0, 1, 2])]) okL_law 10 ?_
  simp only [axC_nil, axC_hit, axC_def, cutAt, lvLive, Option.isSome_none, Option.isSome_some, catS, lvGet, lvIns, lvSet1, lvSet2, gLit_0, gLit_1, lv_args, fv0, fv1, fv2, fv3, isI_s, isL_s, isRf_s, isRf_n, gtI_s, gtL_s, gtV_s, gFilter_nil, gFilter_cons, gL1, gL2, gL3, gL4, gL5, va_rf_s, va_rf_n, hK_sI, hK_sR, hK_sA, hK_sJ, hK_sO, hI_sI, hI_sR, hI_sA, hI_sJ, hI_sO, hR_sI, hR_sR, hR_sA, hR_sJ, hR_sO, hN_sI, hN_sR, hN_sA, hN_sJ, hN_sO, hA_sI, hA_sR, hA_sA, hA_sJ, hA_sO, hJ_sI, hJ_sR, hJ_sA, hJ_sJ, hJ_sO, hO_sI, hO_sR, hO_sA, hO_sJ, hO_sO, up3_eq, up2_eq, List.map_cons, List.map_nil, List.sum_cons, List.sum_nil, List.nil_append, List.cons_append, Option.toList_some, Option.toList_none, true_and, and_true, if_true, if_false, and_self, true_or, or_true, or_false, false_or, false_and, and_false, not_true_eq_false, not_false_eq_true, forall_const, reduceCtorEq, implies_true, List.contains_cons, List.contains_nil, Bool.or_false, Bool.false_or, Bool.or_true, Bool.true_or, Bool.and_true, Bool.true_and, Bool.and_false, Bool.false_and, Bool.not_true, Bool.not_false, BEq.rfl, Bool.false_eq_true, Bool.true_eq_false, eq_self, ↓reduceIte, Nat.reduceAdd, Nat.reduceEqDiff, Nat.reduceBEq, Nat.reduceLT, Nat.reduceLeDiff, Nat.reduceSub, Nat.reduceMul, Nat.reduceBNe, List.append_nil, Nat.zero_le, Nat.zero_add, Nat.zero_ne_one, Nat.one_ne_zero, false_implies, true_implies, not_false_eq_true, ne_eq, upd_e, updL_e, bI_zo, nI0z, nI1o, nI1z, nI0o, nI0q, nI1q, nm1_lt, nm1_ge, ax_iconst tL_law_16, ax_newarray tL_law_17]
  try simp (disch := omega) only [z0, o1, nI_add, pk_mul, nI_ltI, nI_leI, nI_eq, nI_clamp, vpn, pk_sub, Nat.add_sub_cancel, bI_0, bI_1, eq_self, true_or, or_true, or_false, false_or, true_and, and_true, false_and, and_false, and_self, or_self, forall_const, not_true_eq_false, not_false_eq_true, false_implies, implies_true, true_implies, ↓reduceIte, if_true, if_false, Nat.not_lt_zero, Nat.zero_le, Nat.le_refl, Nat.lt_irrefl, ne_eq, reduceCtorEq, Bool.false_eq_true]
  repeat (refine ⟨by omega, ?_⟩)
  intro o ho
  refine gG_wd (c' := 300 * 512) (n' := 3900 * 512) (by omega) (by omega) ?_
  refine gG_astore_nR (k := 3) (gDec okL_law tL_law_19) (by decide) ?_
  refine gG_iconst (v := nI 0) (gDec okL_law tL_law_20) rfl (gG_istore (gDec okL_law tL_law_21) (by decide) ?_)
  show gG B mL_law 2048 (300 * 512) (3900 * 512) 23 (lvL b u x o 0) [] (nA h3 13 o 1) Q
  refine lw_loop hX hXs hz (fun i c n h => h20 u x o i c n xa h) hQ 512 0 _ (by omega) (Nat.zero_le _) ?_
  -- what stands at the loop's start
  have nx : ∀ c, hK h1 c ≠ 0 → c ≠ x := fun c hc q => hc (by rw [q]; exact hx)
  have k2 : ∀ c, hK h1 c ≠ 0 → hK (nO h1 10 x) c ≠ 0 := fun c hc => by rw [hK_nO, va_up_eq, if_neg (nx c hc)]; exact hc
  have f12 : FRO ow [] h1 (nO h1 10 x) := (FRO.rf (ow := ow) (T := []) h1).nO hx
  have S13 : ∀ c, hK h1 c ≠ 0 → SAM h1 h3 c := fun c hc => (f12.2 c hc (by simp)).tr (s3 c (k2 c hc) (nx c hc))
  have S34 : ∀ c, hK h3 c ≠ 0 → SAM h3 (nA h3 13 o 1) c := NEWF_A ho
  have S14 : ∀ c, hK h1 c ≠ 0 → SAM h1 (nA h3 13 o 1) c := fun c hc => (S13 c hc).tr (S34 c (by rw [(S13 c hc).1]; exact hc))
  have z1 : ∀ c, hK h3 c = 0 → hK h1 c = 0 := fun c hc => by
    rcases Nat.eq_zero_or_pos (hK h1 c) with q | q
    · exact q
    · rw [(S13 c (by omega)).1] at hc; exact hc
  have zx : ∀ k, gIsR 10 k = true → hK h1 (xa k) = 0 := fun k q => by
    have w := (fx k q).1
    rw [hK_nO, va_up_eq, if_neg (fx k q).2] at w
    exact w
  let ow2 : Nat → gTag := fun c => if hK h1 c = 0 then (9, 0, 0) else ow c
  have D2 : DS E Y ow2 0 [] h1 sIi aI := D.wo (fun c hc => if_neg hc)
  have D4 : DS E Y ow2 0 [] (nA h3 13 o 1) sIi aI := D2.scr J_init.1 ⟨fun c hc => ⟨(S14 c hc).1, (S14 c hc).2.1⟩, fun c hc _ => S14 c hc⟩
  have R4 : RS x xa (nA h3 13 o 1) sIi aI := R.sm (S34 x (by rw [R.1.1]; omega)) (fun k q => S34 _ (by rw [R.1.2.2.1 k q]; exact rK_n0 q))
  have t9 : ∀ c, hK h1 c = 0 → 9 ≤ (ow2 c).1 := fun c hc => by
    show 9 ≤ (if hK h1 c = 0 then ((9, 0, 0) : gTag) else ow c).1
    rw [if_pos hc]
    exact Nat.le_refl _
  exact ⟨Y, ow2, 0, [], sIi, aI, D4, y0, R4, ⟨t9 x hx, fun k q => t9 _ (zx k q), t9 o (z1 o ho)⟩, J_init, by rw [hK_nA, va_up_eq, if_pos rfl], by rw [hN_nA, va_up_eq, if_pos rfl]⟩
end LAWI
