/-! THE CLASS: frames; Math; spans -/
/-- nothing has changed but these fields and arrays -/
def FRM (I : List (Nat × Nat × Nat)) (A : List (Nat × Nat)) (h h' : gHp) : Prop := hK h' = hK h ∧ hR h' = hR h ∧ hN h' = hN h ∧ hO h' = hO h ∧ hJ h' = hJ h ∧ (∀ c k b, ¬ (c, k, b) ∈ I → hI h' c k b = hI h c k b) ∧ (∀ t b, ¬ (t, b) ∈ A → hA h' t b = hA h t b)
section FRMS
variable {I J : List (Nat × Nat × Nat)} {A C : List (Nat × Nat)} {h h1 h2 : gHp}
theorem FRM.rf (h : gHp) : FRM I A h h := ⟨rfl, rfl, rfl, rfl, rfl, fun _ _ _ _ => rfl, fun _ _ _ => rfl⟩
theorem FRM.tr (p : FRM I A h h1) (q : FRM I A h1 h2) : FRM I A h h2 := ⟨q.1.trans p.1, q.2.1.trans p.2.1, q.2.2.1.trans p.2.2.1, q.2.2.2.1.trans p.2.2.2.1, q.2.2.2.2.1.trans p.2.2.2.2.1, fun c k b hc => (q.2.2.2.2.2.1 c k b hc).trans (p.2.2.2.2.2.1 c k b hc), fun t b hc => (q.2.2.2.2.2.2 t b hc).trans (p.2.2.2.2.2.2 t b hc)⟩
theorem FRM.up (p : FRM I A h h1) (hI : ∀ x, x ∈ I → x ∈ J) (hA : ∀ x, x ∈ A → x ∈ C) : FRM J C h h1 := ⟨p.1, p.2.1, p.2.2.1, p.2.2.2.1, p.2.2.2.2.1, fun c k b hc => p.2.2.2.2.2.1 c k b (fun e => hc (hI _ e)), fun t b hc => p.2.2.2.2.2.2 t b (fun e => hc (hA _ e))⟩
theorem FRM.sI (p : FRM I A h h1) {c k b : Nat} {v : Int32} (hm : (c, k, b) ∈ I) : FRM I A h (sI h1 c k b v) := ⟨p.1, p.2.1, p.2.2.1, p.2.2.2.1, p.2.2.2.2.1, fun c' k' b' hc => by
  rw [hI_sI, up3_eq, if_neg (fun e => hc (by rw [e.1, e.2.1, e.2.2]; exact hm))]
  exact p.2.2.2.2.2.1 c' k' b' hc, p.2.2.2.2.2.2⟩
theorem FRM.sA (p : FRM I A h h1) {t b : Nat} {f : Nat → Int32} (hm : (t, b) ∈ A) : FRM I A h (sA h1 t b f) := ⟨p.1, p.2.1, p.2.2.1, p.2.2.2.1, p.2.2.2.2.1, p.2.2.2.2.2.1, fun t' b' hc => by
  rw [hA_sA, up2_eq, if_neg (fun e => hc (by rw [e.1, e.2]; exact hm))]
  exact p.2.2.2.2.2.2 t' b' hc⟩
end FRMS
theorem w_Mi : Cond.initialized "java/lang/Math" ∈ lw_good := gMem (i := 87) rfl rfl
theorem w_Mxs : Cond.static Lib.Math.max.name ∈ lw_good := gMem (i := 319) rfl rfl
theorem w_Mxc : Cond.code Lib.Math.max.name Lib.Math.max.code 2 (some .int) ∈ lw_good := gMem (i := 320) rfl rfl
theorem w_Mns : Cond.static Lib.Math.min.name ∈ lw_good := gMem (i := 351) rfl rfl
theorem w_Mnc : Cond.code Lib.Math.min.name Lib.Math.min.code 2 (some .int) ∈ lw_good := gMem (i := 352) rfl rfl
set_option maxRecDepth 100000 in
theorem w_M50 : Cond.methodLink (gY kX7_dropSpan).cls 50 Lib.Math.max.name ∈ lw_good := gMem (i := 498) rfl rfl
section GMATH
variable {B : gB} {m : gM} {d c n pc idx : Nat} {lv : List (Nat × Value)} {st : List Value} {h : gHp} {Q : Option Value → gHp → Prop}
theorem gG_mmax {x y : Int32} (hdg : decode (gCd m) pc = .ok (.invokestatic idx, 3)) (hlk : Cond.methodLink (gY m).cls idx Lib.Math.max.name ∈ lw_good) (hr : (st.map fun v => v.category).sum ≤ 8) (kk : gG B m (d + 1) c n (pc + 3) lv (.int (if x < y then y else x) :: st) h Q) : gG B m (d + 1) c n pc lv (.int y :: .int x :: st) h Q := by
  intro p e s mi args below meth cd H locs cells slots ls C R S hl
  obtain ⟨hx, hcode, hml, hrr, hlo, hown, hnm, hts, ⟨hKK, hEE⟩, hbs, hEx⟩ := id C
  refine va_mmax hx hcode (by rw [hml]; exact hl.1.symm) hown (hts _ hlk) (hts _ w_Mxs) (hts _ w_Mi) (hts _ w_Mxc) (by simp only [gRm]; omega) (by simp only [gRm]; omega) (by simp only [gRm]; omega) (by simp only [gRm]; omega) hdg ?_
  exact kk p e s mi args below meth cd H locs cells slots ls C R S hl
theorem gG_mmin {x y : Int32} (hdg : decode (gCd m) pc = .ok (.invokestatic idx, 3)) (hlk : Cond.methodLink (gY m).cls idx Lib.Math.min.name ∈ lw_good) (hr : (st.map fun v => v.category).sum ≤ 8) (kk : gG B m (d + 1) c n (pc + 3) lv (.int (if y < x then y else x) :: st) h Q) : gG B m (d + 1) c n pc lv (.int y :: .int x :: st) h Q := by
  intro p e s mi args below meth cd H locs cells slots ls C R S hl
  obtain ⟨hx, hcode, hml, hrr, hlo, hown, hnm, hts, ⟨hKK, hEE⟩, hbs, hEx⟩ := id C
  refine va_mmin hx hcode (by rw [hml]; exact hl.1.symm) hown (hts _ hlk) (hts _ w_Mns) (hts _ w_Mi) (hts _ w_Mnc) (by simp only [gRm]; omega) (by simp only [gRm]; omega) (by simp only [gRm]; omega) (by simp only [gRm]; omega) hdg ?_
  exact kk p e s mi args below meth cd H locs cells slots ls C R S hl
end GMATH
/-- the cells of a text are apart -/
def TXD (z : Nat → Nat) : Prop := ∀ i j, i = 1 ∨ i = 4 ∨ i = 5 ∨ i = 6 → j = 1 ∨ j = 4 ∨ j = 5 ∨ j = 6 → (z i = z j ↔ i = j)
def spA (S : Nat → Nat → Nat) (n F T G : Nat) (e i : Nat) : Nat := if i = n then (if e = 4 then F else if e = 5 then T else if e = 6 then G else S e i) else S e i
def spD (S : Nat → Nat → Nat) (sp m : Nat) (e i : Nat) : Nat := if (e = 4 ∨ e = 5 ∨ e = 6) ∧ sp ≤ i ∧ i < m then S e (i + 1) else S e i
section CLSB
variable {B : gB} {h : gHp} {d : Nat} {Q : Option Value → gHp → Prop} {z : Nat → Nat} {L n : Nat} {W : Nat → Nat} {S : Nat → Nat → Nat}
/-- a write of a span's array -/
theorem TXT.A {e j v : Nat} {f : Nat → Int32} (ht : TXT h z L W n S) (hd : TXD z) (he : e = 4 ∨ e = 5 ∨ e = 6) (hj : j < 4) (hv : v < 2 ^ 31) (h9 : e = 6 → j < n → v ≤ 9) (hf : ∀ i, i < 4 → f i = if i = j then nI v else hA h 12 (z e) i) : TXT (sA h 12 (z e) f) z L W n (up2 S e j v) := by
  obtain ⟨h0, hn, hL, aw, a4, a5, a6, bw, bs, b6⟩ := ht
  have key : ∀ k, k = 4 ∨ k = 5 ∨ k = 6 → (∀ i, i < 4 → hA h 12 (z k) i = nI (S k i)) → ∀ i, i < 4 → hA (sA h 12 (z e) f) 12 (z k) i = nI (up2 S e j v k i) := by
    intro k hk ha i hi
    rw [hA_sA, up2_eq]
    by_cases ek : k = e
    · subst ek
      rw [if_pos ⟨rfl, rfl⟩, hf i hi, up2_eq]
      by_cases ei : i = j
      · simp [ei]
      · simp [ei, ha i hi]
    · rw [if_neg (by rw [hd k e (by omega) (by omega)]; omega), up2_eq, if_neg (by omega)]
      exact ha i hi
  refine ⟨h0, hn, hL, fun k hk => ?_, key 4 (by omega) a4, key 5 (by omega) a5, key 6 (by omega) a6, bw, fun e' i => ?_, fun i hi => ?_⟩
  · rw [hA_sA, up2_eq, if_neg (by rw [hd 1 e (by omega) (by omega)]; omega)]
    exact aw k hk
  · rw [up2_eq]; split
    · exact hv
    · exact bs e' i
  · rw [up2_eq]; split
    · rename_i c; exact h9 c.1.symm (by omega)
    · exact b6 i hi
theorem TXT.N {k : Nat} (ht : TXT h z L W n S) (hk : k ≤ 4) (h9 : ∀ i, i < k → S 6 i ≤ 9) : TXT (sI h 8 5 (z 0) (nI k)) z L W k S := by
  obtain ⟨⟨k0, r1, r4, r5, r6, k1, k4, k5, k6, n1, n4, n5, n6, i3⟩, hn, hL, aw, a4, a5, a6, bw, bs, b6⟩ := ht
  exact ⟨⟨k0, r1, r4, r5, r6, k1, k4, k5, k6, n1, n4, n5, n6, by rw [hI_sI, up3_eq]; simp⟩, hk, hL, aw, a4, a5, a6, bw, bs, h9⟩
theorem TXT.cg {S' : Nat → Nat → Nat} (ht : TXT h z L W n S) (he : ∀ e i, S e i = S' e i) : TXT h z L W n S' := by
  have : S = S' := funext (fun e => funext (fun i => he e i))
  rw [← this]; exact ht
set_option maxHeartbeats 1600000 in
theorem x_addSpan {F T G : Nat} (ht : TXT h z L W n S) (hd : TXD z) (hn : n < 4) (hF : F < 2 ^ 31) (hT : T < 2 ^ 31) (hG : G ≤ 9) (hq : ∀ h', FRM [(8, 5, z 0)] [(12, z 4), (12, z 5), (12, z 6)] h h' → TXT h' z L W (n + 1) (spA S n F T G) → Q none h') : gFn B mX7_addSpan (d + 1) 0 0 [.ref (z 0), .int (nI F), .int (nI T), .int (nI G)] h Q := by
  have ht' := ht
  obtain ⟨⟨k0, r1, r4, r5, r6, k1, k4, k5, k6, n1, n4, n5, n6, i3⟩, hn4, hL, aw, a4, a5, a6, bw, bs, b6⟩ := ht
  have d54 : ¬ z 5 = z 4 := by rw [hd 5 4 (by omega) (by omega)]; omega
  have d64 : ¬ z 6 = z 4 := by rw [hd 6 4 (by omega) (by omega)]; omega
  have d65 : ¬ z 6 = z 5 := by rw [hd 6 5 (by omega) (by omega)]; omega
  refine gStartX (cut := []) pnX7_addSpan okX7_addSpan (Nat.le_of_ble_eq_true rfl) 60 ?_
  simp only [axC_nil, axC_hit, axC_def, cutAt, lvLive, Option.isSome_none, Option.isSome_some, catS, lvGet, lvIns, lvSet1, lvSet2, gLit_0, gLit_1, lv_args, fv0, fv1, fv2, fv3, isI_s, isL_s, isRf_s, isRf_n, gtI_s, gtL_s, gtV_s, gFilter_nil, gFilter_cons, gL1, gL2, gL3, gL4, gL5, va_rf_s, va_rf_n, hK_sI, hK_sR, hK_sA, hK_sJ, hK_sO, hI_sI, hI_sR, hI_sA, hI_sJ, hI_sO, hR_sI, hR_sR, hR_sA, hR_sJ, hR_sO, hN_sI, hN_sR, hN_sA, hN_sJ, hN_sO, hA_sI, hA_sR, hA_sA, hA_sJ, hA_sO, hJ_sI, hJ_sR, hJ_sA, hJ_sJ, hJ_sO, hO_sI, hO_sR, hO_sA, hO_sJ, hO_sO, up3_eq, up2_eq, List.map_cons, List.map_nil, List.sum_cons, List.sum_nil, List.nil_append, List.cons_append, Option.toList_some, Option.toList_none, true_and, and_true, if_true, if_false, and_self, true_or, or_true, or_false, false_or, false_and, and_false, not_true_eq_false, not_false_eq_true, forall_const, reduceCtorEq, implies_true, List.contains_cons, List.contains_nil, Bool.or_false, Bool.false_or, Bool.or_true, Bool.true_or, Bool.and_true, Bool.true_and, Bool.and_false, Bool.false_and, Bool.not_true, Bool.not_false, BEq.rfl, Bool.false_eq_true, Bool.true_eq_false, eq_self, ↓reduceIte, Nat.reduceAdd, Nat.reduceEqDiff, Nat.reduceBEq, Nat.reduceLT, Nat.reduceLeDiff, Nat.reduceSub, Nat.reduceMul, Nat.reduceBNe, List.append_nil, Nat.zero_le, Nat.zero_add, Nat.zero_ne_one, Nat.one_ne_zero, false_implies, true_implies, not_false_eq_true, ne_eq, upd_e, updL_e, bI_zo, nI0z, nI1o, nI1z, nI0o, nI0q, nI1q, nm1_lt, nm1_ge, ax_aload_n tX7_addSpan_0, ax_getI tX7_addSpan_1, ax_iconst tX7_addSpan_4, ax_icmp_ge tX7_addSpan_5, ax_aload_n tX7_addSpan_8, ax_getR tX7_addSpan_9, ax_aload_n tX7_addSpan_12, ax_getI tX7_addSpan_13, ax_iload_n tX7_addSpan_16, ax_iastore tX7_addSpan_17, ax_aload_n tX7_addSpan_18, ax_getR tX7_addSpan_19, ax_aload_n tX7_addSpan_22, ax_getI tX7_addSpan_23, ax_iload_n tX7_addSpan_26, ax_iastore tX7_addSpan_27, ax_aload_n tX7_addSpan_28, ax_getR tX7_addSpan_29, ax_aload_n tX7_addSpan_32, ax_getI tX7_addSpan_33, ax_iload_n tX7_addSpan_36, ax_iastore tX7_addSpan_37, ax_aload_n tX7_addSpan_38, ax_dup tX7_addSpan_39, ax_getI tX7_addSpan_40, ax_iconst tX7_addSpan_43, ax_iadd tX7_addSpan_44, ax_putI tX7_addSpan_45, ax_vret tX7_addSpan_48, k0, r4, r5, r6, k4, k5, k6, n4, n5, n6, i3, d54, d64, d65]
  simp (disch := omega) only [z0, o1, nI_add, pk_mul, nI_ltI, nI_leI, nI_eq, nI_clamp, vpn, pk_sub, Nat.add_sub_cancel, bI_0, bI_1, eq_self, true_or, or_true, or_false, false_or, true_and, and_true, false_and, and_false, and_self, or_self, forall_const, not_true_eq_false, not_false_eq_true, false_implies, implies_true, true_implies, ↓reduceIte, if_true, if_false, Nat.not_lt_zero, Nat.zero_le, Nat.le_refl, Nat.lt_irrefl, ne_eq, reduceCtorEq, Bool.false_eq_true]
  refine ⟨fun c => absurd c (by omega), fun _ => ⟨hn, hn, hn, hq _ ((((FRM.rf h).sA (by simp)).sA (by simp)).sA (by simp) |>.sI (by simp)) ?_⟩⟩
  have t1 := ht'.A (e := 4) (j := n) (v := F) hd (by omega) hn hF (by omega) (f := upd (hA h 12 (z 4)) n (nI F)) (fun i _ => by rw [upd_e])
  have t2 := t1.A (e := 5) (j := n) (v := T) hd (by omega) hn hT (by omega) (f := upd (hA h 12 (z 5)) n (nI T)) (fun i _ => by simp only [upd_e, hA_sA, up2_eq, d54, and_false, if_false])
  have t3 := t2.A (e := 6) (j := n) (v := G) hd (by omega) hn (by omega) (by omega) (f := upd (hA h 12 (z 6)) n (nI G)) (fun i _ => by simp only [upd_e, hA_sA, up2_eq, d65, d64, and_false, if_false])
  have t4 := t3.N (k := n + 1) (by omega) (fun i hi => by
    simp only [up2_eq]
    by_cases e : i = n
    · simp [e]; exact hG
    · simp [e]; exact b6 i (by omega))
  exact t4.cg (fun e i => by simp only [up2_eq, spA]; grind)
set_option maxHeartbeats 1600000 in
theorem x_dropSpan_loop {h0 : gHp} {sp : Nat} (hd : TXD z) (hsp : sp < n) (h9 : ∀ i, i < n → S 6 i ≤ 9) (hq : ∀ h', FRM [(8, 5, z 0)] [(12, z 4), (12, z 5), (12, z 6)] h0 h' → TXT h' z L W (n - 1) (spD S sp (n - 1)) → Q none h') : ∀ q i h, n ≤ i + q + 1 → i + 1 ≤ n → sp ≤ i → FRM [(8, 5, z 0)] [(12, z 4), (12, z 5), (12, z 6)] h0 h → TXT h z L W n (spD S sp i) → gG B kX7_dropSpan (d + 1) 0 0 6 [(0, .ref (z 0)), (2, .int (nI i))] [] h Q := by
  have d54 : ¬ z 5 = z 4 := by rw [hd 5 4 (by omega) (by omega)]; omega
  have d64 : ¬ z 6 = z 4 := by rw [hd 6 4 (by omega) (by omega)]; omega
  have d65 : ¬ z 6 = z 5 := by rw [hd 6 5 (by omega) (by omega)]; omega
  have fin : ∀ i h, i + 1 = n → FRM [(8, 5, z 0)] [(12, z 4), (12, z 5), (12, z 6)] h0 h → TXT h z L W n (spD S sp i) → gG B kX7_dropSpan (d + 1) 0 0 6 [(0, .ref (z 0)), (2, .int (nI i))] [] h Q := by
    intro i h e hf ht
    have ht' := ht
    obtain ⟨⟨k0, r1, r4, r5, r6, k1, k4, k5, k6, n1, n4, n5, n6, i3⟩, hn4, hL, aw, a4, a5, a6, bw, bs, b6⟩ := ht
    refine gAx (cut := []) okX7_dropSpan 60 ?_
    simp only [axC_nil, axC_hit, axC_def, cutAt, lvLive, Option.isSome_none, Option.isSome_some, catS, lvGet, lvIns, lvSet1, lvSet2, gLit_0, gLit_1, lv_args, fv0, fv1, fv2, fv3, isI_s, isL_s, isRf_s, isRf_n, gtI_s, gtL_s, gtV_s, gFilter_nil, gFilter_cons, gL1, gL2, gL3, gL4, gL5, va_rf_s, va_rf_n, hK_sI, hK_sR, hK_sA, hK_sJ, hK_sO, hI_sI, hI_sR, hI_sA, hI_sJ, hI_sO, hR_sI, hR_sR, hR_sA, hR_sJ, hR_sO, hN_sI, hN_sR, hN_sA, hN_sJ, hN_sO, hA_sI, hA_sR, hA_sA, hA_sJ, hA_sO, hJ_sI, hJ_sR, hJ_sA, hJ_sJ, hJ_sO, hO_sI, hO_sR, hO_sA, hO_sJ, hO_sO, up3_eq, up2_eq, List.map_cons, List.map_nil, List.sum_cons, List.sum_nil, List.nil_append, List.cons_append, Option.toList_some, Option.toList_none, true_and, and_true, if_true, if_false, and_self, true_or, or_true, or_false, false_or, false_and, and_false, not_true_eq_false, not_false_eq_true, forall_const, reduceCtorEq, implies_true, List.contains_cons, List.contains_nil, Bool.or_false, Bool.false_or, Bool.or_true, Bool.true_or, Bool.and_true, Bool.true_and, Bool.and_false, Bool.false_and, Bool.not_true, Bool.not_false, BEq.rfl, Bool.false_eq_true, Bool.true_eq_false, eq_self, ↓reduceIte, Nat.reduceAdd, Nat.reduceEqDiff, Nat.reduceBEq, Nat.reduceLT, Nat.reduceLeDiff, Nat.reduceSub, Nat.reduceMul, Nat.reduceBNe, List.append_nil, Nat.zero_le, Nat.zero_add, Nat.zero_ne_one, Nat.one_ne_zero, false_implies, true_implies, not_false_eq_true, ne_eq, upd_e, updL_e, bI_zo, nI0z, nI1o, nI1z, nI0o, nI0q, nI1q, nm1_lt, nm1_ge, ax_iload_n tX7_dropSpan_0, ax_iconst tX7_dropSpan_1, ax_istore_n tX7_dropSpan_5, ax_iload_n tX7_dropSpan_6, ax_iconst tX7_dropSpan_7, ax_iadd tX7_dropSpan_8, ax_aload_n tX7_dropSpan_9, ax_getI tX7_dropSpan_10, ax_icmp_ge tX7_dropSpan_13, ax_aload_n tX7_dropSpan_16, ax_getR tX7_dropSpan_17, ax_iload_n tX7_dropSpan_20, ax_aload_n tX7_dropSpan_21, ax_getR tX7_dropSpan_22, ax_iload_n tX7_dropSpan_25, ax_iconst tX7_dropSpan_26, ax_iadd tX7_dropSpan_27, ax_iaload tX7_dropSpan_28, ax_iastore tX7_dropSpan_29, ax_aload_n tX7_dropSpan_30, ax_getR tX7_dropSpan_31, ax_iload_n tX7_dropSpan_34, ax_aload_n tX7_dropSpan_35, ax_getR tX7_dropSpan_36, ax_iload_n tX7_dropSpan_39, ax_iconst tX7_dropSpan_40, ax_iadd tX7_dropSpan_41, ax_iaload tX7_dropSpan_42, ax_iastore tX7_dropSpan_43, ax_aload_n tX7_dropSpan_44, ax_getR tX7_dropSpan_45, ax_iload_n tX7_dropSpan_48, ax_aload_n tX7_dropSpan_49, ax_getR tX7_dropSpan_50, ax_iload_n tX7_dropSpan_53, ax_iconst tX7_dropSpan_54, ax_iadd tX7_dropSpan_55, ax_iaload tX7_dropSpan_56, ax_iastore tX7_dropSpan_57, ax_iinc tX7_dropSpan_58, ax_goto tX7_dropSpan_61, ax_aload_n tX7_dropSpan_64, ax_getI tX7_dropSpan_65, ax_if_le tX7_dropSpan_68, ax_aload_n tX7_dropSpan_71, ax_dup tX7_dropSpan_72, ax_getI tX7_dropSpan_73, ax_iconst tX7_dropSpan_76, ax_isub tX7_dropSpan_77, ax_putI tX7_dropSpan_78, ax_vret tX7_dropSpan_81, f_202, k0, r4, r5, r6, k4, k5, k6, n4, n5, n6, i3, d54, d64, d65]
    simp (disch := omega) only [z0, o1, nI_add, pk_mul, nI_ltI, nI_leI, nI_eq, nI_clamp, vpn, pk_sub, Nat.add_sub_cancel, bI_0, bI_1, eq_self, true_or, or_true, or_false, false_or, true_and, and_true, false_and, and_false, and_self, or_self, forall_const, not_true_eq_false, not_false_eq_true, false_implies, implies_true, true_implies, ↓reduceIte, if_true, if_false, Nat.not_lt_zero, Nat.zero_le, Nat.le_refl, Nat.lt_irrefl, ne_eq, reduceCtorEq, Bool.false_eq_true]
    refine ⟨fun _ => ⟨fun c => absurd c (by omega), fun _ => ?_⟩, fun c => absurd c (by omega)⟩
    have ei : i = n - 1 := by omega
    subst ei
    exact hq _ (hf.sI (by simp)) (ht'.N (by omega) (fun i hi => b6 i (by omega)))
  intro q
  induction q with
  | zero => intro i h h1 h2 h3 hf ht; exact fin i h (by omega) hf ht
  | succ q ih =>
    intro i h h1 h2 h3 hf ht
    by_cases e : i + 1 = n
    · exact fin i h e hf ht
    have K := ih (i + 1)
    have ht' := ht
    obtain ⟨⟨k0, r1, r4, r5, r6, k1, k4, k5, k6, n1, n4, n5, n6, i3⟩, hn4, hL, aw, a4, a5, a6, bw, bs, b6⟩ := ht
    refine gAx (cut := [(6, [0, 2])]) okX7_dropSpan 60 ?_
    simp only [axC_nil, axC_hit, axC_def, cutAt, lvLive, Option.isSome_none, Option.isSome_some, catS, lvGet, lvIns, lvSet1, lvSet2, gLit_0, gLit_1, lv_args, fv0, fv1, fv2, fv3, isI_s, isL_s, isRf_s, isRf_n, gtI_s, gtL_s, gtV_s, gFilter_nil, gFilter_cons, gL1, gL2, gL3, gL4, gL5, va_rf_s, va_rf_n, hK_sI, hK_sR, hK_sA, hK_sJ, hK_sO, hI_sI, hI_sR, hI_sA, hI_sJ, hI_sO, hR_sI, hR_sR, hR_sA, hR_sJ, hR_sO, hN_sI, hN_sR, hN_sA, hN_sJ, hN_sO, hA_sI, hA_sR, hA_sA, hA_sJ, hA_sO, hJ_sI, hJ_sR, hJ_sA, hJ_sJ, hJ_sO, hO_sI, hO_sR, hO_sA, hO_sJ, hO_sO, up3_eq, up2_eq, List.map_cons, List.map_nil, List.sum_cons, List.sum_nil, List.nil_append, List.cons_append, Option.toList_some, Option.toList_none, true_and, and_true, if_true, if_false, and_self, true_or, or_true, or_false, false_or, false_and, and_false, not_true_eq_false, not_false_eq_true, forall_const, reduceCtorEq, implies_true, List.contains_cons, List.contains_nil, Bool.or_false, Bool.false_or, Bool.or_true, Bool.true_or, Bool.and_true, Bool.true_and, Bool.and_false, Bool.false_and, Bool.not_true, Bool.not_false, BEq.rfl, Bool.false_eq_true, Bool.true_eq_false, eq_self, ↓reduceIte, Nat.reduceAdd, Nat.reduceEqDiff, Nat.reduceBEq, Nat.reduceLT, Nat.reduceLeDiff, Nat.reduceSub, Nat.reduceMul, Nat.reduceBNe, List.append_nil, Nat.zero_le, Nat.zero_add, Nat.zero_ne_one, Nat.one_ne_zero, false_implies, true_implies, not_false_eq_true, ne_eq, upd_e, updL_e, bI_zo, nI0z, nI1o, nI1z, nI0o, nI0q, nI1q, nm1_lt, nm1_ge, ax_iload_n tX7_dropSpan_0, ax_iconst tX7_dropSpan_1, ax_istore_n tX7_dropSpan_5, ax_iload_n tX7_dropSpan_6, ax_iconst tX7_dropSpan_7, ax_iadd tX7_dropSpan_8, ax_aload_n tX7_dropSpan_9, ax_getI tX7_dropSpan_10, ax_icmp_ge tX7_dropSpan_13, ax_aload_n tX7_dropSpan_16, ax_getR tX7_dropSpan_17, ax_iload_n tX7_dropSpan_20, ax_aload_n tX7_dropSpan_21, ax_getR tX7_dropSpan_22, ax_iload_n tX7_dropSpan_25, ax_iconst tX7_dropSpan_26, ax_iadd tX7_dropSpan_27, ax_iaload tX7_dropSpan_28, ax_iastore tX7_dropSpan_29, ax_aload_n tX7_dropSpan_30, ax_getR tX7_dropSpan_31, ax_iload_n tX7_dropSpan_34, ax_aload_n tX7_dropSpan_35, ax_getR tX7_dropSpan_36, ax_iload_n tX7_dropSpan_39, ax_iconst tX7_dropSpan_40, ax_iadd tX7_dropSpan_41, ax_iaload tX7_dropSpan_42, ax_iastore tX7_dropSpan_43, ax_aload_n tX7_dropSpan_44, ax_getR tX7_dropSpan_45, ax_iload_n tX7_dropSpan_48, ax_aload_n tX7_dropSpan_49, ax_getR tX7_dropSpan_50, ax_iload_n tX7_dropSpan_53, ax_iconst tX7_dropSpan_54, ax_iadd tX7_dropSpan_55, ax_iaload tX7_dropSpan_56, ax_iastore tX7_dropSpan_57, ax_iinc tX7_dropSpan_58, ax_goto tX7_dropSpan_61, ax_aload_n tX7_dropSpan_64, ax_getI tX7_dropSpan_65, ax_if_le tX7_dropSpan_68, ax_aload_n tX7_dropSpan_71, ax_dup tX7_dropSpan_72, ax_getI tX7_dropSpan_73, ax_iconst tX7_dropSpan_76, ax_isub tX7_dropSpan_77, ax_putI tX7_dropSpan_78, ax_vret tX7_dropSpan_81, f_202, k0, r4, r5, r6, k4, k5, k6, n4, n5, n6, i3, d54, d64, d65]
    simp (disch := omega) only [z0, o1, nI_add, pk_mul, nI_ltI, nI_leI, nI_eq, nI_clamp, vpn, pk_sub, Nat.add_sub_cancel, bI_0, bI_1, eq_self, true_or, or_true, or_false, false_or, true_and, and_true, false_and, and_false, and_self, or_self, forall_const, not_true_eq_false, not_false_eq_true, false_implies, implies_true, true_implies, ↓reduceIte, if_true, if_false, Nat.not_lt_zero, Nat.zero_le, Nat.le_refl, Nat.lt_irrefl, ne_eq, reduceCtorEq, Bool.false_eq_true]
    simp (disch := omega) only [a4, a5, a6]
    refine ⟨fun c => absurd c (by omega), fun _ => ⟨by omega, by omega, by omega, by omega, by omega, by omega, ?_⟩⟩
    have t1 := ht'.A (e := 4) (j := i) (v := spD S sp i 4 (i + 1)) hd (by omega) (by omega) (bs _ _) (by omega) (f := upd (hA h 12 (z 4)) i (nI (spD S sp i 4 (i + 1)))) (fun i _ => by rw [upd_e])
    have t2 := t1.A (e := 5) (j := i) (v := spD S sp i 5 (i + 1)) hd (by omega) (by omega) (bs _ _) (by omega) (f := upd (hA h 12 (z 5)) i (nI (spD S sp i 5 (i + 1)))) (fun i _ => by simp only [upd_e, hA_sA, up2_eq, d54, and_false, if_false])
    have t3 := t2.A (e := 6) (j := i) (v := spD S sp i 6 (i + 1)) hd (by omega) (by omega) (bs _ _) (fun _ _ => b6 _ (by omega)) (f := upd (hA h 12 (z 6)) i (nI (spD S sp i 6 (i + 1)))) (fun i _ => by simp only [upd_e, hA_sA, up2_eq, d65, d64, and_false, if_false])
    refine K _ (by omega) (by omega) (by omega) (((hf.sA (by simp)).sA (by simp)).sA (by simp)) (t3.cg (fun e j => ?_))
    simp only [up2_eq, spD]
    clear ht' K ih hq fin t1 t2 t3 hf a4 a5 a6 aw bs b6 h9
    grind
set_option maxHeartbeats 1600000 in
theorem x_dropSpan {sp : Nat} (ht : TXT h z L W n S) (hd : TXD z) (hsp : sp < n) (hq : ∀ h', FRM [(8, 5, z 0)] [(12, z 4), (12, z 5), (12, z 6)] h h' → TXT h' z L W (n - 1) (spD S sp (n - 1)) → Q none h') : gFn B mX7_dropSpan (d + 2) 0 0 [.ref (z 0), .int (nI sp)] h Q := by
  have b6 := ht.2.2.2.2.2.2.2.2.2
  have hn := ht.2.1
  have Lp := x_dropSpan_loop (B := B) (d := d + 1) (h0 := h) hd hsp b6 hq n sp h (by omega) (by omega) (by omega) (FRM.rf h) (ht.cg (fun e i => by simp only [spD]; rw [if_neg (by omega)]))
  show gFn B kX7_dropSpan (d + 2) 0 0 [.ref (z 0), .int (nI sp)] h Q
  refine gStartX (cut := [(2, [0])]) pnX7_dropSpan okX7_dropSpan (Nat.le_of_ble_eq_true rfl) 60 ?_
  simp only [axC_nil, axC_hit, axC_def, cutAt, lvLive, Option.isSome_none, Option.isSome_some, catS, lvGet, lvIns, lvSet1, lvSet2, gLit_0, gLit_1, lv_args, fv0, fv1, fv2, fv3, isI_s, isL_s, isRf_s, isRf_n, gtI_s, gtL_s, gtV_s, gFilter_nil, gFilter_cons, gL1, gL2, gL3, gL4, gL5, va_rf_s, va_rf_n, hK_sI, hK_sR, hK_sA, hK_sJ, hK_sO, hI_sI, hI_sR, hI_sA, hI_sJ, hI_sO, hR_sI, hR_sR, hR_sA, hR_sJ, hR_sO, hN_sI, hN_sR, hN_sA, hN_sJ, hN_sO, hA_sI, hA_sR, hA_sA, hA_sJ, hA_sO, hJ_sI, hJ_sR, hJ_sA, hJ_sJ, hJ_sO, hO_sI, hO_sR, hO_sA, hO_sJ, hO_sO, up3_eq, up2_eq, List.map_cons, List.map_nil, List.sum_cons, List.sum_nil, List.nil_append, List.cons_append, Option.toList_some, Option.toList_none, true_and, and_true, if_true, if_false, and_self, true_or, or_true, or_false, false_or, false_and, and_false, not_true_eq_false, not_false_eq_true, forall_const, reduceCtorEq, implies_true, List.contains_cons, List.contains_nil, Bool.or_false, Bool.false_or, Bool.or_true, Bool.true_or, Bool.and_true, Bool.true_and, Bool.and_false, Bool.false_and, Bool.not_true, Bool.not_false, BEq.rfl, Bool.false_eq_true, Bool.true_eq_false, eq_self, ↓reduceIte, Nat.reduceAdd, Nat.reduceEqDiff, Nat.reduceBEq, Nat.reduceLT, Nat.reduceLeDiff, Nat.reduceSub, Nat.reduceMul, Nat.reduceBNe, List.append_nil, Nat.zero_le, Nat.zero_add, Nat.zero_ne_one, Nat.one_ne_zero, false_implies, true_implies, not_false_eq_true, ne_eq, upd_e, updL_e, bI_zo, nI0z, nI1o, nI1z, nI0o, nI0q, nI1q, nm1_lt, nm1_ge, ax_iload_n tX7_dropSpan_0, ax_iconst tX7_dropSpan_1, ax_istore_n tX7_dropSpan_5, ax_iload_n tX7_dropSpan_6, ax_iconst tX7_dropSpan_7, ax_iadd tX7_dropSpan_8, ax_aload_n tX7_dropSpan_9, ax_getI tX7_dropSpan_10, ax_icmp_ge tX7_dropSpan_13, ax_aload_n tX7_dropSpan_16, ax_getR tX7_dropSpan_17, ax_iload_n tX7_dropSpan_20, ax_aload_n tX7_dropSpan_21, ax_getR tX7_dropSpan_22, ax_iload_n tX7_dropSpan_25, ax_iconst tX7_dropSpan_26, ax_iadd tX7_dropSpan_27, ax_iaload tX7_dropSpan_28, ax_iastore tX7_dropSpan_29, ax_aload_n tX7_dropSpan_30, ax_getR tX7_dropSpan_31, ax_iload_n tX7_dropSpan_34, ax_aload_n tX7_dropSpan_35, ax_getR tX7_dropSpan_36, ax_iload_n tX7_dropSpan_39, ax_iconst tX7_dropSpan_40, ax_iadd tX7_dropSpan_41, ax_iaload tX7_dropSpan_42, ax_iastore tX7_dropSpan_43, ax_aload_n tX7_dropSpan_44, ax_getR tX7_dropSpan_45, ax_iload_n tX7_dropSpan_48, ax_aload_n tX7_dropSpan_49, ax_getR tX7_dropSpan_50, ax_iload_n tX7_dropSpan_53, ax_iconst tX7_dropSpan_54, ax_iadd tX7_dropSpan_55, ax_iaload tX7_dropSpan_56, ax_iastore tX7_dropSpan_57, ax_iinc tX7_dropSpan_58, ax_goto tX7_dropSpan_61, ax_aload_n tX7_dropSpan_64, ax_getI tX7_dropSpan_65, ax_if_le tX7_dropSpan_68, ax_aload_n tX7_dropSpan_71, ax_dup tX7_dropSpan_72, ax_getI tX7_dropSpan_73, ax_iconst tX7_dropSpan_76, ax_isub tX7_dropSpan_77, ax_putI tX7_dropSpan_78, ax_vret tX7_dropSpan_81, f_202]
  refine gG_mmax (idx := 50) eX7_dropSpan_2 w_M50 (by simp [Value.category]) ?_
  rw [if_neg (by rw [nI_ltI (by omega) (by omega)]; omega)]
  refine gAx (cut := [(6, [0, 2])]) okX7_dropSpan 60 ?_
  simp only [axC_nil, axC_hit, axC_def, cutAt, lvLive, Option.isSome_none, Option.isSome_some, catS, lvGet, lvIns, lvSet1, lvSet2, gLit_0, gLit_1, lv_args, fv0, fv1, fv2, fv3, isI_s, isL_s, isRf_s, isRf_n, gtI_s, gtL_s, gtV_s, gFilter_nil, gFilter_cons, gL1, gL2, gL3, gL4, gL5, va_rf_s, va_rf_n, hK_sI, hK_sR, hK_sA, hK_sJ, hK_sO, hI_sI, hI_sR, hI_sA, hI_sJ, hI_sO, hR_sI, hR_sR, hR_sA, hR_sJ, hR_sO, hN_sI, hN_sR, hN_sA, hN_sJ, hN_sO, hA_sI, hA_sR, hA_sA, hA_sJ, hA_sO, hJ_sI, hJ_sR, hJ_sA, hJ_sJ, hJ_sO, hO_sI, hO_sR, hO_sA, hO_sJ, hO_sO, up3_eq, up2_eq, List.map_cons, List.map_nil, List.sum_cons, List.sum_nil, List.nil_append, List.cons_append, Option.toList_some, Option.toList_none, true_and, and_true, if_true, if_false, and_self, true_or, or_true, or_false, false_or, false_and, and_false, not_true_eq_false, not_false_eq_true, forall_const, reduceCtorEq, implies_true, List.contains_cons, List.contains_nil, Bool.or_false, Bool.false_or, Bool.or_true, Bool.true_or, Bool.and_true, Bool.true_and, Bool.and_false, Bool.false_and, Bool.not_true, Bool.not_false, BEq.rfl, Bool.false_eq_true, Bool.true_eq_false, eq_self, ↓reduceIte, Nat.reduceAdd, Nat.reduceEqDiff, Nat.reduceBEq, Nat.reduceLT, Nat.reduceLeDiff, Nat.reduceSub, Nat.reduceMul, Nat.reduceBNe, List.append_nil, Nat.zero_le, Nat.zero_add, Nat.zero_ne_one, Nat.one_ne_zero, false_implies, true_implies, not_false_eq_true, ne_eq, upd_e, updL_e, bI_zo, nI0z, nI1o, nI1z, nI0o, nI0q, nI1q, nm1_lt, nm1_ge, ax_iload_n tX7_dropSpan_0, ax_iconst tX7_dropSpan_1, ax_istore_n tX7_dropSpan_5, ax_iload_n tX7_dropSpan_6, ax_iconst tX7_dropSpan_7, ax_iadd tX7_dropSpan_8, ax_aload_n tX7_dropSpan_9, ax_getI tX7_dropSpan_10, ax_icmp_ge tX7_dropSpan_13, ax_aload_n tX7_dropSpan_16, ax_getR tX7_dropSpan_17, ax_iload_n tX7_dropSpan_20, ax_aload_n tX7_dropSpan_21, ax_getR tX7_dropSpan_22, ax_iload_n tX7_dropSpan_25, ax_iconst tX7_dropSpan_26, ax_iadd tX7_dropSpan_27, ax_iaload tX7_dropSpan_28, ax_iastore tX7_dropSpan_29, ax_aload_n tX7_dropSpan_30, ax_getR tX7_dropSpan_31, ax_iload_n tX7_dropSpan_34, ax_aload_n tX7_dropSpan_35, ax_getR tX7_dropSpan_36, ax_iload_n tX7_dropSpan_39, ax_iconst tX7_dropSpan_40, ax_iadd tX7_dropSpan_41, ax_iaload tX7_dropSpan_42, ax_iastore tX7_dropSpan_43, ax_aload_n tX7_dropSpan_44, ax_getR tX7_dropSpan_45, ax_iload_n tX7_dropSpan_48, ax_aload_n tX7_dropSpan_49, ax_getR tX7_dropSpan_50, ax_iload_n tX7_dropSpan_53, ax_iconst tX7_dropSpan_54, ax_iadd tX7_dropSpan_55, ax_iaload tX7_dropSpan_56, ax_iastore tX7_dropSpan_57, ax_iinc tX7_dropSpan_58, ax_goto tX7_dropSpan_61, ax_aload_n tX7_dropSpan_64, ax_getI tX7_dropSpan_65, ax_if_le tX7_dropSpan_68, ax_aload_n tX7_dropSpan_71, ax_dup tX7_dropSpan_72, ax_getI tX7_dropSpan_73, ax_iconst tX7_dropSpan_76, ax_isub tX7_dropSpan_77, ax_putI tX7_dropSpan_78, ax_vret tX7_dropSpan_81, f_202]
  exact Lp
end CLSB
