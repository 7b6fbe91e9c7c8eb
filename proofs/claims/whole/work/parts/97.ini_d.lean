/-! CONSTRUCTORS: the reference -/
def w9 (j : Nat) : Nat := [519931663, 1176170, 1891, 1633, 5538, 444789672, 30047016, 1402353114].getD j 0
def aI (k j : Nat) : Nat := if k = 53 ∨ k = 54 then 1 else if k = 9 then w9 j else 0
def sIi (k : Nat) : Nat := if k = 25 then 1 else 0
/-- an array of the reference as it is made -/
def RAC (h : gHp) (k y : Nat) : Prop := hK h y = rK k ∧ hN h y = rN k ∧ (rU k = 1 → ∀ j, hA h 112 y j = nI (aI k j)) ∧ (rU k = 2 → ∀ j, hA h 114 y j = nI (aI k j)) ∧ (rU k = 3 → ∀ j, hA h 112 y j = sg (aI k j)) ∧ (rU k = 4 → ∀ j, hJ h 113 y j = lN (aI k j))
def RIN (h0 : gHp) (x : Nat) (h : gHp) (ks : List Nat) (xa : Nat → Nat) (sc : Nat → Nat) : Prop := hK h x = 11 ∧ (∀ k, k ∈ ks → hR h 10 k x = some (xa k) ∧ RAC h k (xa k) ∧ xa k ≠ x ∧ hK h (xa k) ≠ 0 ∧ hK h0 (xa k) = 0) ∧ (∀ i j, i ∈ ks → j ∈ ks → xa i = xa j → i = j) ∧ (∀ k, hI h 10 k x = nI (sc k)) ∧ (∀ b, hK h0 b ≠ 0 → hK h b = hK h0 b) ∧ (∀ b, hK h0 b ≠ 0 → b ≠ x → SAM h0 h b)
theorem RAC.M {h h' : gHp} {k y : Nat} (r : RAC h k y) (s : SAM h h' y) : RAC h' k y := ⟨by rw [s.1]; exact r.1, by rw [s.2.1]; exact r.2.1, fun e j => by rw [s.2.2.2.2.1]; exact r.2.2.1 e j, fun e j => by rw [s.2.2.2.2.1]; exact r.2.2.2.1 e j, fun e j => by rw [s.2.2.2.2.1]; exact r.2.2.2.2.1 e j, fun e j => by rw [s.2.2.2.2.2.1]; exact r.2.2.2.2.2 e j⟩
theorem ra_new {h : gHp} {k y t N : Nat} (ht : rK k = t) (hN : rN k = N) : (k ≠ 9) → RAC (nA h t y N) k y := fun k9 => by
  refine ⟨by rw [hK_nA, va_up_eq, if_pos rfl, ht], by rw [hN_nA, va_up_eq, if_pos rfl, hN], fun e j => ?_, fun e j => ?_, fun e j => ?_, fun e j => ?_⟩
  · have q := rU_1 e
    rw [ht] at q
    have n53 : ¬ (k = 53 ∨ k = 54) := fun w => by rcases w with rfl | rfl <;> simp [rU, rUs] at e
    rw [hA_nA, up2_eq, if_pos ⟨q.symm, rfl⟩, aI, if_neg n53, if_neg k9]; rfl
  · have q := rU_2 e
    rw [ht] at q
    have n53 : ¬ (k = 53 ∨ k = 54) := fun w => by rcases w with rfl | rfl <;> simp [rU, rUs] at e
    rw [hA_nA, up2_eq, if_pos ⟨q.symm, rfl⟩, aI, if_neg n53, if_neg k9]; rfl
  · have kk := (rU_K (k := k) (by omega)).2
    have n53 : k = 53 ∨ k = 54 := by
      have hd : ∀ i : Fin 64, rU i.val = 3 → i.val = 53 ∨ i.val = 54 := by decide
      exact hd ⟨k, kk⟩ e
    have q : rK k = 112 := by rcases n53 with rfl | rfl <;> decide
    rw [ht] at q
    rw [hA_nA, up2_eq, if_pos ⟨q.symm, rfl⟩, aI, if_pos n53]; rfl
  · have kk := (rU_K (k := k) (by omega)).2
    have q : rK k = 113 := by
      have hd : ∀ i : Fin 64, rU i.val = 4 → rK i.val = 113 := by decide
      exact hd ⟨k, kk⟩ e
    have n53 : ¬ (k = 53 ∨ k = 54) := fun w => by rcases w with rfl | rfl <;> simp [rU, rUs] at e
    rw [ht] at q
    rw [hJ_nA, up2_eq, if_pos ⟨q.symm, rfl⟩, aI, if_neg n53, if_neg k9]; rfl
section RINS
variable {h0 h hm : gHp} {x : Nat} {ks : List Nat} {xa sc : Nat → Nat}
theorem RIN.step {k y : Nat} (i : RIN h0 x h ks xa sc) (nw : NEWF h hm) (hy : hK h y = 0) (hk : ¬ k ∈ ks) (r : RAC hm k y) (r0 : rK k ≠ 0) : RIN h0 x (sR hm 10 k x (some y)) (k :: ks) (va_up xa k y) sc := by
  obtain ⟨a1, a2, a3, a4, a5, a6⟩ := i
  have su := nw x (by omega)
  have yx : y ≠ x := fun q => by rw [q] at hy; omega
  have sm : ∀ b, b ≠ x → SAM hm (sR hm 10 k x (some y)) b := fun b q => ⟨rfl, rfl, fun _ _ => rfl, fun c j => by rw [hR_sR, up3_eq, if_neg (fun w => q w.2.2)], fun _ => rfl, fun _ => rfl, rfl⟩
  have h0y : hK h0 y = 0 := by
    rcases Nat.eq_zero_or_pos (hK h0 y) with q | q
    · exact q
    · rw [a5 y (by omega)] at hy; exact hy
  refine ⟨by rw [hK_sR, su.1]; exact a1, fun j hj => ?_, fun i j hi hj e => ?_, fun j => by rw [hI_sR, su.2.2.1]; exact a4 j, fun b hb => by rw [hK_sR, (nw b (by rw [a5 b hb]; exact hb)).1]; exact a5 b hb, fun b hb q => (a6 b hb q).tr ((nw b (by rw [a5 b hb]; exact hb)).tr (sm b q))⟩
  · rcases List.mem_cons.mp hj with e | e
    · subst e
      rw [va_up_eq, if_pos rfl, hR_sR, up3_eq, if_pos ⟨rfl, rfl, rfl⟩]
      exact ⟨rfl, r.M (sm y yx), yx, by rw [hK_sR, r.1]; exact r0, h0y⟩
    · have ne : j ≠ k := fun q => hk (by rw [← q]; exact e)
      obtain ⟨b1, b2, b3, b4, b5⟩ := a2 j e
      rw [va_up_eq, if_neg ne, hR_sR, up3_eq, if_neg (fun w => ne w.2.1), su.2.2.2.1]
      exact ⟨b1, b2.M ((nw _ b4).tr (sm _ b3)), b3, by rw [hK_sR, (nw _ b4).1]; exact b4, b5⟩
  · rw [va_up_eq, va_up_eq] at e
    by_cases qi : i = k
    · by_cases qj : j = k
      · omega
      · rw [if_pos qi, if_neg qj] at e
        have hj' : j ∈ ks := by rcases List.mem_cons.mp hj with w | w; exact absurd w qj; exact w
        exact absurd hy (by rw [e]; exact (a2 j hj').2.2.2.1)
    · have hi' : i ∈ ks := by rcases List.mem_cons.mp hi with w | w; exact absurd w qi; exact w
      by_cases qj : j = k
      · rw [if_neg qi, if_pos qj] at e
        exact absurd hy (by rw [← e]; exact (a2 i hi').2.2.2.1)
      · rw [if_neg qi, if_neg qj] at e
        have hj' : j ∈ ks := by rcases List.mem_cons.mp hj with w | w; exact absurd w qj; exact w
        exact a3 i j hi' hj' e
theorem RIN.num {k w : Nat} (i : RIN h0 x h ks xa sc) : RIN h0 x (sI h 10 k x (nI w)) ks xa (va_up sc k w) := by
  obtain ⟨a1, a2, a3, a4, a5, a6⟩ := i
  have sm : ∀ b, b ≠ x → SAM h (sI h 10 k x (nI w)) b := fun b q => ⟨rfl, rfl, fun c j => by rw [hI_sI, up3_eq, if_neg (fun w => q w.2.2)], fun _ _ => rfl, fun _ => rfl, fun _ => rfl, rfl⟩
  refine ⟨a1, fun j hj => ?_, a3, fun j => ?_, a5, fun b hb q => (a6 b hb q).tr (sm b q)⟩
  · obtain ⟨b1, b2, b3, b4, b5⟩ := a2 j hj
    exact ⟨b1, b2.M (sm _ b3), b3, b4, b5⟩
  · rw [hI_sI, up3_eq, va_up_eq]
    by_cases q : j = k
    · rw [if_pos ⟨rfl, q, rfl⟩, if_pos q]
    · rw [if_neg (fun w => q w.2.1), if_neg q]; exact a4 j
end RINS
theorem NEWF.sJ {h h1 : gHp} {t y : Nat} {f : Nat → Int64} (p : NEWF h h1) (hy : hK h y = 0) : NEWF h (sJ h1 t y f) := fun b hb => (p b hb).tr ⟨rfl, rfl, fun _ _ => rfl, fun _ _ => rfl, fun _ => rfl, fun t' => by rw [hJ_sJ, up2_eq, if_neg (fun w => hb (by rw [w.2]; exact hy))], rfl⟩
def w9f : Nat → Int64 := vp_updL (vp_updL (vp_updL (vp_updL (vp_updL (vp_updL (vp_updL (vp_updL (fun _ => 0) 0 (lN 519931663)) 1 (lN 1176170)) 2 (lN 1891)) 3 (lN 1633)) 4 (lN 5538)) 5 (lN 444789672)) 6 (lN 30047016)) 7 (lN 1402353114)
theorem w9f_e : ∀ j, w9f j = lN (w9 j)
  | 0 => rfl | 1 => rfl | 2 => rfl | 3 => rfl | 4 => rfl | 5 => rfl | 6 => rfl | 7 => rfl
  | j + 8 => by
    have e : w9 (j + 8) = 0 := rfl
    rw [e, w9f]
    simp only [updL_e]
    repeat rw [if_neg (by omega)]
    rfl
theorem ra_9 {h : gHp} {y : Nat} {f : Nat → Int64} (h1 : hK h y = 113) (h2 : hN h y = 8) (h3 : hJ h 113 y = f) (h4 : ∀ j, f j = lN (w9 j)) : RAC h 9 y := ⟨h1, h2, fun e => absurd e (by decide), fun e => absurd e (by decide), fun e => absurd e (by decide), fun _ j => by rw [h3, h4]; rfl⟩
section INID
variable {B : gB} {h0 : gHp} {d : Nat} {Q : Option Value → gHp → Prop} {x : Nat} {c n : Nat} {h : gHp} {ks : List Nat} {xa sc : Nat → Nat}
set_option maxRecDepth 100000 in
set_option maxHeartbeats 1600000 in
theorem ri_4 (i : RIN h0 x h ks xa sc) (hk : ¬ 1 ∈ ks) (hq : ∀ y h', RIN h0 x h' (1 :: ks) (va_up xa 1 y) sc → gG B mX9_init (d + 1) c n 13 [(0, .ref x)] [] h' Q) : gG B mX9_init (d + 1) (c + 1) (n + 600) 4 [(0, .ref x)] [] h Q := by
  have ku := i.1
  refine gAx (cut := [(13, [0])]) okX9_init 20 ?_
  simp only [axC_nil, axC_hit, axC_def, cutAt, lvLive, Option.isSome_none, Option.isSome_some, catS, lvGet, lvIns, lvSet1, lvSet2, gLit_0, gLit_1, lv_args, fv0, fv1, fv2, fv3, isI_s, isL_s, isRf_s, isRf_n, gtI_s, gtL_s, gtV_s, gFilter_nil, gFilter_cons, gL1, gL2, gL3, gL4, gL5, va_rf_s, va_rf_n, hK_sI, hK_sR, hK_sA, hK_sJ, hK_sO, hI_sI, hI_sR, hI_sA, hI_sJ, hI_sO, hR_sI, hR_sR, hR_sA, hR_sJ, hR_sO, hN_sI, hN_sR, hN_sA, hN_sJ, hN_sO, hA_sI, hA_sR, hA_sA, hA_sJ, hA_sO, hJ_sI, hJ_sR, hJ_sA, hJ_sJ, hJ_sO, hO_sI, hO_sR, hO_sA, hO_sJ, hO_sO, up3_eq, up2_eq, List.map_cons, List.map_nil, List.sum_cons, List.sum_nil, List.nil_append, List.cons_append, Option.toList_some, Option.toList_none, true_and, and_true, if_true, if_false, and_self, true_or, or_true, or_false, false_or, false_and, and_false, not_true_eq_false, not_false_eq_true, forall_const, reduceCtorEq, implies_true, List.contains_cons, List.contains_nil, Bool.or_false, Bool.false_or, Bool.or_true, Bool.true_or, Bool.and_true, Bool.true_and, Bool.and_false, Bool.false_and, Bool.not_true, Bool.not_false, BEq.rfl, Bool.false_eq_true, Bool.true_eq_false, eq_self, ↓reduceIte, Nat.reduceAdd, Nat.reduceEqDiff, Nat.reduceBEq, Nat.reduceLT, Nat.reduceLeDiff, Nat.reduceSub, Nat.reduceMul, Nat.reduceBNe, List.append_nil, Nat.zero_le, Nat.zero_add, Nat.zero_ne_one, Nat.one_ne_zero, false_implies, true_implies, not_false_eq_true, ne_eq, upd_e, updL_e, bI_zo, nI0z, nI1o, nI1z, nI0o, nI0q, nI1q, nm1_lt, nm1_ge, ax_aload_n tX9_init_4, ax_sipush tX9_init_5, ax_newarray tX9_init_8, ax_putR tX9_init_10, ax_putN tX9_init_10]
  try simp (disch := omega) only [z0, o1, nI_add, pk_mul, nI_ltI, nI_leI, nI_eq, nI_clamp, vpn, pk_sub, Nat.add_sub_cancel, bI_0, bI_1, eq_self, true_or, or_true, or_false, false_or, true_and, and_true, false_and, and_false, and_self, or_self, forall_const, not_true_eq_false, not_false_eq_true, false_implies, implies_true, true_implies, ↓reduceIte, if_true, if_false, Nat.not_lt_zero, Nat.zero_le, Nat.le_refl, Nat.lt_irrefl, ne_eq, reduceCtorEq, Bool.false_eq_true]
  repeat (refine ⟨by omega, ?_⟩)
  intro y hy
  have nu : x ≠ y := fun q => by rw [q] at ku; omega
  have km : hK (nA h 112 y 600) x = 11 := by rw [hK_nA, va_up_eq, if_neg nu]; exact ku
  refine ⟨km, ?_⟩
  exact hq y _ (i.step (NEWF_A hy) hy hk (ra_new rfl rfl (by omega)) (by decide))
set_option maxRecDepth 100000 in
set_option maxHeartbeats 1600000 in
theorem ri_13 (i : RIN h0 x h ks xa sc) (hk : ¬ 4 ∈ ks) (hq : ∀ y h', RIN h0 x h' (4 :: ks) (va_up xa 4 y) sc → gG B mX9_init (d + 1) c n 22 [(0, .ref x)] [] h' Q) : gG B mX9_init (d + 1) (c + 1) (n + 602) 13 [(0, .ref x)] [] h Q := by
  have ku := i.1
  refine gAx (cut := [(22, [0])]) okX9_init 20 ?_
  simp only [axC_nil, axC_hit, axC_def, cutAt, lvLive, Option.isSome_none, Option.isSome_some, catS, lvGet, lvIns, lvSet1, lvSet2, gLit_0, gLit_1, lv_args, fv0, fv1, fv2, fv3, isI_s, isL_s, isRf_s, isRf_n, gtI_s, gtL_s, gtV_s, gFilter_nil, gFilter_cons, gL1, gL2, gL3, gL4, gL5, va_rf_s, va_rf_n, hK_sI, hK_sR, hK_sA, hK_sJ, hK_sO, hI_sI, hI_sR, hI_sA, hI_sJ, hI_sO, hR_sI, hR_sR, hR_sA, hR_sJ, hR_sO, hN_sI, hN_sR, hN_sA, hN_sJ, hN_sO, hA_sI, hA_sR, hA_sA, hA_sJ, hA_sO, hJ_sI, hJ_sR, hJ_sA, hJ_sJ, hJ_sO, hO_sI, hO_sR, hO_sA, hO_sJ, hO_sO, up3_eq, up2_eq, List.map_cons, List.map_nil, List.sum_cons, List.sum_nil, List.nil_append, List.cons_append, Option.toList_some, Option.toList_none, true_and, and_true, if_true, if_false, and_self, true_or, or_true, or_false, false_or, false_and, and_false, not_true_eq_false, not_false_eq_true, forall_const, reduceCtorEq, implies_true, List.contains_cons, List.contains_nil, Bool.or_false, Bool.false_or, Bool.or_true, Bool.true_or, Bool.and_true, Bool.true_and, Bool.and_false, Bool.false_and, Bool.not_true, Bool.not_false, BEq.rfl, Bool.false_eq_true, Bool.true_eq_false, eq_self, ↓reduceIte, Nat.reduceAdd, Nat.reduceEqDiff, Nat.reduceBEq, Nat.reduceLT, Nat.reduceLeDiff, Nat.reduceSub, Nat.reduceMul, Nat.reduceBNe, List.append_nil, Nat.zero_le, Nat.zero_add, Nat.zero_ne_one, Nat.one_ne_zero, false_implies, true_implies, not_false_eq_true, ne_eq, upd_e, updL_e, bI_zo, nI0z, nI1o, nI1z, nI0o, nI0q, nI1q, nm1_lt, nm1_ge, ax_aload_n tX9_init_13, ax_sipush tX9_init_14, ax_newarray tX9_init_17, ax_putR tX9_init_19, ax_putN tX9_init_19]
  try simp (disch := omega) only [z0, o1, nI_add, pk_mul, nI_ltI, nI_leI, nI_eq, nI_clamp, vpn, pk_sub, Nat.add_sub_cancel, bI_0, bI_1, eq_self, true_or, or_true, or_false, false_or, true_and, and_true, false_and, and_false, and_self, or_self, forall_const, not_true_eq_false, not_false_eq_true, false_implies, implies_true, true_implies, ↓reduceIte, if_true, if_false, Nat.not_lt_zero, Nat.zero_le, Nat.le_refl, Nat.lt_irrefl, ne_eq, reduceCtorEq, Bool.false_eq_true]
  repeat (refine ⟨by omega, ?_⟩)
  intro y hy
  have nu : x ≠ y := fun q => by rw [q] at ku; omega
  have km : hK (nA h 112 y 602) x = 11 := by rw [hK_nA, va_up_eq, if_neg nu]; exact ku
  refine ⟨km, ?_⟩
  exact hq y _ (i.step (NEWF_A hy) hy hk (ra_new rfl rfl (by omega)) (by decide))
set_option maxRecDepth 100000 in
set_option maxHeartbeats 1600000 in
theorem ri_22 (i : RIN h0 x h ks xa sc) (hk : ¬ 5 ∈ ks) (hq : ∀ y h', RIN h0 x h' (5 :: ks) (va_up xa 5 y) sc → gG B mX9_init (d + 1) c n 31 [(0, .ref x)] [] h' Q) : gG B mX9_init (d + 1) (c + 1) (n + 602) 22 [(0, .ref x)] [] h Q := by
  have ku := i.1
  refine gAx (cut := [(31, [0])]) okX9_init 20 ?_
  simp only [axC_nil, axC_hit, axC_def, cutAt, lvLive, Option.isSome_none, Option.isSome_some, catS, lvGet, lvIns, lvSet1, lvSet2, gLit_0, gLit_1, lv_args, fv0, fv1, fv2, fv3, isI_s, isL_s, isRf_s, isRf_n, gtI_s, gtL_s, gtV_s, gFilter_nil, gFilter_cons, gL1, gL2, gL3, gL4, gL5, va_rf_s, va_rf_n, hK_sI, hK_sR, hK_sA, hK_sJ, hK_sO, hI_sI, hI_sR, hI_sA, hI_sJ, hI_sO, hR_sI, hR_sR, hR_sA, hR_sJ, hR_sO, hN_sI, hN_sR, hN_sA, hN_sJ, hN_sO, hA_sI, hA_sR, hA_sA, hA_sJ, hA_sO, hJ_sI, hJ_sR, hJ_sA, hJ_sJ, hJ_sO, hO_sI, hO_sR, hO_sA, hO_sJ, hO_sO, up3_eq, up2_eq, List.map_cons, List.map_nil, List.sum_cons, List.sum_nil, List.nil_append, List.cons_append, Option.toList_some, Option.toList_none, true_and, and_true, if_true, if_false, and_self, true_or, or_true, or_false, false_or, false_and, and_false, not_true_eq_false, not_false_eq_true, forall_const, reduceCtorEq, implies_true, List.contains_cons, List.contains_nil, Bool.or_false, Bool.false_or, Bool.or_true, Bool.true_or, Bool.and_true, Bool.true_and, Bool.and_false, Bool.false_and, Bool.not_true, Bool.not_false, BEq.rfl, Bool.false_eq_true, Bool.true_eq_false, eq_self, ↓reduceIte, Nat.reduceAdd, Nat.reduceEqDiff, Nat.reduceBEq, Nat.reduceLT, Nat.reduceLeDiff, Nat.reduceSub, Nat.reduceMul, Nat.reduceBNe, List.append_nil, Nat.zero_le, Nat.zero_add, Nat.zero_ne_one, Nat.one_ne_zero, false_implies, true_implies, not_false_eq_true, ne_eq, upd_e, updL_e, bI_zo, nI0z, nI1o, nI1z, nI0o, nI0q, nI1q, nm1_lt, nm1_ge, ax_aload_n tX9_init_22, ax_sipush tX9_init_23, ax_newarray tX9_init_26, ax_putR tX9_init_28, ax_putN tX9_init_28]
  try simp (disch := omega) only [z0, o1, nI_add, pk_mul, nI_ltI, nI_leI, nI_eq, nI_clamp, vpn, pk_sub, Nat.add_sub_cancel, bI_0, bI_1, eq_self, true_or, or_true, or_false, false_or, true_and, and_true, false_and, and_false, and_self, or_self, forall_const, not_true_eq_false, not_false_eq_true, false_implies, implies_true, true_implies, ↓reduceIte, if_true, if_false, Nat.not_lt_zero, Nat.zero_le, Nat.le_refl, Nat.lt_irrefl, ne_eq, reduceCtorEq, Bool.false_eq_true]
  repeat (refine ⟨by omega, ?_⟩)
  intro y hy
  have nu : x ≠ y := fun q => by rw [q] at ku; omega
  have km : hK (nA h 112 y 602) x = 11 := by rw [hK_nA, va_up_eq, if_neg nu]; exact ku
  refine ⟨km, ?_⟩
  exact hq y _ (i.step (NEWF_A hy) hy hk (ra_new rfl rfl (by omega)) (by decide))
set_option maxRecDepth 100000 in
set_option maxHeartbeats 1600000 in
theorem ri_31 (i : RIN h0 x h ks xa sc) (hk : ¬ 6 ∈ ks) (hq : ∀ y h', RIN h0 x h' (6 :: ks) (va_up xa 6 y) sc → gG B mX9_init (d + 1) c n 40 [(0, .ref x)] [] h' Q) : gG B mX9_init (d + 1) (c + 1) (n + 602) 31 [(0, .ref x)] [] h Q := by
  have ku := i.1
  refine gAx (cut := [(40, [0])]) okX9_init 20 ?_
  simp only [axC_nil, axC_hit, axC_def, cutAt, lvLive, Option.isSome_none, Option.isSome_some, catS, lvGet, lvIns, lvSet1, lvSet2, gLit_0, gLit_1, lv_args, fv0, fv1, fv2, fv3, isI_s, isL_s, isRf_s, isRf_n, gtI_s, gtL_s, gtV_s, gFilter_nil, gFilter_cons, gL1, gL2, gL3, gL4, gL5, va_rf_s, va_rf_n, hK_sI, hK_sR, hK_sA, hK_sJ, hK_sO, hI_sI, hI_sR, hI_sA, hI_sJ, hI_sO, hR_sI, hR_sR, hR_sA, hR_sJ, hR_sO, hN_sI, hN_sR, hN_sA, hN_sJ, hN_sO, hA_sI, hA_sR, hA_sA, hA_sJ, hA_sO, hJ_sI, hJ_sR, hJ_sA, hJ_sJ, hJ_sO, hO_sI, hO_sR, hO_sA, hO_sJ, hO_sO, up3_eq, up2_eq, List.map_cons, List.map_nil, List.sum_cons, List.sum_nil, List.nil_append, List.cons_append, Option.toList_some, Option.toList_none, true_and, and_true, if_true, if_false, and_self, true_or, or_true, or_false, false_or, false_and, and_false, not_true_eq_false, not_false_eq_true, forall_const, reduceCtorEq, implies_true, List.contains_cons, List.contains_nil, Bool.or_false, Bool.false_or, Bool.or_true, Bool.true_or, Bool.and_true, Bool.true_and, Bool.and_false, Bool.false_and, Bool.not_true, Bool.not_false, BEq.rfl, Bool.false_eq_true, Bool.true_eq_false, eq_self, ↓reduceIte, Nat.reduceAdd, Nat.reduceEqDiff, Nat.reduceBEq, Nat.reduceLT, Nat.reduceLeDiff, Nat.reduceSub, Nat.reduceMul, Nat.reduceBNe, List.append_nil, Nat.zero_le, Nat.zero_add, Nat.zero_ne_one, Nat.one_ne_zero, false_implies, true_implies, not_false_eq_true, ne_eq, upd_e, updL_e, bI_zo, nI0z, nI1o, nI1z, nI0o, nI0q, nI1q, nm1_lt, nm1_ge, ax_aload_n tX9_init_31, ax_sipush tX9_init_32, ax_newarray tX9_init_35, ax_putR tX9_init_37, ax_putN tX9_init_37]
  try simp (disch := omega) only [z0, o1, nI_add, pk_mul, nI_ltI, nI_leI, nI_eq, nI_clamp, vpn, pk_sub, Nat.add_sub_cancel, bI_0, bI_1, eq_self, true_or, or_true, or_false, false_or, true_and, and_true, false_and, and_false, and_self, or_self, forall_const, not_true_eq_false, not_false_eq_true, false_implies, implies_true, true_implies, ↓reduceIte, if_true, if_false, Nat.not_lt_zero, Nat.zero_le, Nat.le_refl, Nat.lt_irrefl, ne_eq, reduceCtorEq, Bool.false_eq_true]
  repeat (refine ⟨by omega, ?_⟩)
  intro y hy
  have nu : x ≠ y := fun q => by rw [q] at ku; omega
  have km : hK (nA h 113 y 602) x = 11 := by rw [hK_nA, va_up_eq, if_neg nu]; exact ku
  refine ⟨km, ?_⟩
  exact hq y _ (i.step (NEWF_A hy) hy hk (ra_new rfl rfl (by omega)) (by decide))
set_option maxRecDepth 100000 in
set_option maxHeartbeats 3200000 in
theorem ri_40 (i : RIN h0 x h ks xa sc) (hk : ¬ 9 ∈ ks) (hq : ∀ y h', RIN h0 x h' (9 :: ks) (va_up xa 9 y) sc → gG B mX9_init (d + 1) c n 98 [(0, .ref x)] [] h' Q) : gG B mX9_init (d + 1) (c + 1) (n + 8) 40 [(0, .ref x)] [] h Q := by
  have ku := i.1
  refine gAx (cut := [(98, [0])]) okX9_init 80 ?_
  simp only [axC_nil, axC_hit, axC_def, cutAt, lvLive, Option.isSome_none, Option.isSome_some, catS, lvGet, lvIns, lvSet1, lvSet2, gLit_0, gLit_1, lv_args, fv0, fv1, fv2, fv3, isI_s, isL_s, isRf_s, isRf_n, gtI_s, gtL_s, gtV_s, gFilter_nil, gFilter_cons, gL1, gL2, gL3, gL4, gL5, va_rf_s, va_rf_n, hK_sI, hK_sR, hK_sA, hK_sJ, hK_sO, hI_sI, hI_sR, hI_sA, hI_sJ, hI_sO, hR_sI, hR_sR, hR_sA, hR_sJ, hR_sO, hN_sI, hN_sR, hN_sA, hN_sJ, hN_sO, hA_sI, hA_sR, hA_sA, hA_sJ, hA_sO, hJ_sI, hJ_sR, hJ_sA, hJ_sJ, hJ_sO, hO_sI, hO_sR, hO_sA, hO_sJ, hO_sO, up3_eq, up2_eq, List.map_cons, List.map_nil, List.sum_cons, List.sum_nil, List.nil_append, List.cons_append, Option.toList_some, Option.toList_none, true_and, and_true, if_true, if_false, and_self, true_or, or_true, or_false, false_or, false_and, and_false, not_true_eq_false, not_false_eq_true, forall_const, reduceCtorEq, implies_true, List.contains_cons, List.contains_nil, Bool.or_false, Bool.false_or, Bool.or_true, Bool.true_or, Bool.and_true, Bool.true_and, Bool.and_false, Bool.false_and, Bool.not_true, Bool.not_false, BEq.rfl, Bool.false_eq_true, Bool.true_eq_false, eq_self, ↓reduceIte, Nat.reduceAdd, Nat.reduceEqDiff, Nat.reduceBEq, Nat.reduceLT, Nat.reduceLeDiff, Nat.reduceSub, Nat.reduceMul, Nat.reduceBNe, List.append_nil, Nat.zero_le, Nat.zero_add, Nat.zero_ne_one, Nat.one_ne_zero, false_implies, true_implies, not_false_eq_true, ne_eq, upd_e, updL_e, bI_zo, nI0z, nI1o, nI1z, nI0o, nI0q, nI1q, nm1_lt, nm1_ge, ax_aload_n tX9_init_40, ax_bipush tX9_init_41, ax_newarray tX9_init_43, ax_dup tX9_init_45, ax_iconst tX9_init_46, ax_ldc2_w tX9_init_47, ax_lastore tX9_init_50, ax_dup tX9_init_51, ax_iconst tX9_init_52, ax_ldc2_w tX9_init_53, ax_lastore tX9_init_56, ax_dup tX9_init_57, ax_iconst tX9_init_58, ax_ldc2_w tX9_init_59, ax_lastore tX9_init_62, ax_dup tX9_init_63, ax_iconst tX9_init_64, ax_ldc2_w tX9_init_65, ax_lastore tX9_init_68, ax_dup tX9_init_69, ax_iconst tX9_init_70, ax_ldc2_w tX9_init_71, ax_lastore tX9_init_74, ax_dup tX9_init_75, ax_iconst tX9_init_76, ax_ldc2_w tX9_init_77, ax_lastore tX9_init_80, ax_dup tX9_init_81, ax_bipush tX9_init_82, ax_ldc2_w tX9_init_84, ax_lastore tX9_init_87, ax_dup tX9_init_88, ax_bipush tX9_init_89, ax_ldc2_w tX9_init_91, ax_lastore tX9_init_94, ax_putR tX9_init_95, ax_putN tX9_init_95]
  try simp (disch := omega) only [z0, o1, nI_add, pk_mul, nI_ltI, nI_leI, nI_eq, nI_clamp, vpn, pk_sub, Nat.add_sub_cancel, bI_0, bI_1, eq_self, true_or, or_true, or_false, false_or, true_and, and_true, false_and, and_false, and_self, or_self, forall_const, not_true_eq_false, not_false_eq_true, false_implies, implies_true, true_implies, ↓reduceIte, if_true, if_false, Nat.not_lt_zero, Nat.zero_le, Nat.le_refl, Nat.lt_irrefl, ne_eq, reduceCtorEq, Bool.false_eq_true]
  repeat (refine ⟨by omega, ?_⟩)
  intro y hy
  have nu : x ≠ y := fun q => by rw [q] at ku; omega
  simp only [hK_nA, hK_sJ, hN_nA, hN_sJ, va_up_eq, if_neg nu, if_pos, ku, true_and, hJ_nA, hJ_sJ, up2_eq, and_self, if_true]
  try simp (disch := omega) only [z0, o1, nI_add, pk_mul, nI_ltI, nI_leI, nI_eq, nI_clamp, vpn, pk_sub, Nat.add_sub_cancel, bI_0, bI_1, eq_self, true_or, or_true, or_false, false_or, true_and, and_true, false_and, and_false, and_self, or_self, forall_const, not_true_eq_false, not_false_eq_true, false_implies, implies_true, true_implies, ↓reduceIte, if_true, if_false, Nat.not_lt_zero, Nat.zero_le, Nat.le_refl, Nat.lt_irrefl, ne_eq, reduceCtorEq, Bool.false_eq_true]
  repeat (refine ⟨by omega, ?_⟩)
  refine hq y _ (i.step (k := 9) ?_ hy hk ?_ (by decide))
  · repeat (refine NEWF.sJ ?_ hy)
    exact NEWF_A hy
  · refine ra_9 (by simp only [hK_sJ, hK_nA, va_up_eq, if_true]) (by simp only [hN_sJ, hN_nA, va_up_eq, if_true]) (f := w9f) (by simp only [hJ_sJ, up2_eq, and_self, if_true, w9f]) w9f_e
set_option maxRecDepth 100000 in
set_option maxHeartbeats 1600000 in
theorem ri_98 (i : RIN h0 x h ks xa sc) (hk : ¬ 10 ∈ ks) (hq : ∀ y h', RIN h0 x h' (10 :: ks) (va_up xa 10 y) sc → gG B mX9_init (d + 1) c n 105 [(0, .ref x)] [] h' Q) : gG B mX9_init (d + 1) (c + 1) (n + 2) 98 [(0, .ref x)] [] h Q := by
  have ku := i.1
  refine gAx (cut := [(105, [0])]) okX9_init 20 ?_
  simp only [axC_nil, axC_hit, axC_def, cutAt, lvLive, Option.isSome_none, Option.isSome_some, catS, lvGet, lvIns, lvSet1, lvSet2, gLit_0, gLit_1, lv_args, fv0, fv1, fv2, fv3, isI_s, isL_s, isRf_s, isRf_n, gtI_s, gtL_s, gtV_s, gFilter_nil, gFilter_cons, gL1, gL2, gL3, gL4, gL5, va_rf_s, va_rf_n, hK_sI, hK_sR, hK_sA, hK_sJ, hK_sO, hI_sI, hI_sR, hI_sA, hI_sJ, hI_sO, hR_sI, hR_sR, hR_sA, hR_sJ, hR_sO, hN_sI, hN_sR, hN_sA, hN_sJ, hN_sO, hA_sI, hA_sR, hA_sA, hA_sJ, hA_sO, hJ_sI, hJ_sR, hJ_sA, hJ_sJ, hJ_sO, hO_sI, hO_sR, hO_sA, hO_sJ, hO_sO, up3_eq, up2_eq, List.map_cons, List.map_nil, List.sum_cons, List.sum_nil, List.nil_append, List.cons_append, Option.toList_some, Option.toList_none, true_and, and_true, if_true, if_false, and_self, true_or, or_true, or_false, false_or, false_and, and_false, not_true_eq_false, not_false_eq_true, forall_const, reduceCtorEq, implies_true, List.contains_cons, List.contains_nil, Bool.or_false, Bool.false_or, Bool.or_true, Bool.true_or, Bool.and_true, Bool.true_and, Bool.and_false, Bool.false_and, Bool.not_true, Bool.not_false, BEq.rfl, Bool.false_eq_true, Bool.true_eq_false, eq_self, ↓reduceIte, Nat.reduceAdd, Nat.reduceEqDiff, Nat.reduceBEq, Nat.reduceLT, Nat.reduceLeDiff, Nat.reduceSub, Nat.reduceMul, Nat.reduceBNe, List.append_nil, Nat.zero_le, Nat.zero_add, Nat.zero_ne_one, Nat.one_ne_zero, false_implies, true_implies, not_false_eq_true, ne_eq, upd_e, updL_e, bI_zo, nI0z, nI1o, nI1z, nI0o, nI0q, nI1q, nm1_lt, nm1_ge, ax_aload_n tX9_init_98, ax_iconst tX9_init_99, ax_newarray tX9_init_100, ax_putR tX9_init_102, ax_putN tX9_init_102]
  try simp (disch := omega) only [z0, o1, nI_add, pk_mul, nI_ltI, nI_leI, nI_eq, nI_clamp, vpn, pk_sub, Nat.add_sub_cancel, bI_0, bI_1, eq_self, true_or, or_true, or_false, false_or, true_and, and_true, false_and, and_false, and_self, or_self, forall_const, not_true_eq_false, not_false_eq_true, false_implies, implies_true, true_implies, ↓reduceIte, if_true, if_false, Nat.not_lt_zero, Nat.zero_le, Nat.le_refl, Nat.lt_irrefl, ne_eq, reduceCtorEq, Bool.false_eq_true]
  repeat (refine ⟨by omega, ?_⟩)
  intro y hy
  have nu : x ≠ y := fun q => by rw [q] at ku; omega
  have km : hK (nA h 112 y 2) x = 11 := by rw [hK_nA, va_up_eq, if_neg nu]; exact ku
  refine ⟨km, ?_⟩
  exact hq y _ (i.step (NEWF_A hy) hy hk (ra_new rfl rfl (by omega)) (by decide))
set_option maxRecDepth 100000 in
set_option maxHeartbeats 1600000 in
theorem ri_105 (i : RIN h0 x h ks xa sc) (hk : ¬ 11 ∈ ks) (hq : ∀ y h', RIN h0 x h' (11 :: ks) (va_up xa 11 y) sc → gG B mX9_init (d + 1) c n 113 [(0, .ref x)] [] h' Q) : gG B mX9_init (d + 1) (c + 1) (n + 32) 105 [(0, .ref x)] [] h Q := by
  have ku := i.1
  refine gAx (cut := [(113, [0])]) okX9_init 20 ?_
  simp only [axC_nil, axC_hit, axC_def, cutAt, lvLive, Option.isSome_none, Option.isSome_some, catS, lvGet, lvIns, lvSet1, lvSet2, gLit_0, gLit_1, lv_args, fv0, fv1, fv2, fv3, isI_s, isL_s, isRf_s, isRf_n, gtI_s, gtL_s, gtV_s, gFilter_nil, gFilter_cons, gL1, gL2, gL3, gL4, gL5, va_rf_s, va_rf_n, hK_sI, hK_sR, hK_sA, hK_sJ, hK_sO, hI_sI, hI_sR, hI_sA, hI_sJ, hI_sO, hR_sI, hR_sR, hR_sA, hR_sJ, hR_sO, hN_sI, hN_sR, hN_sA, hN_sJ, hN_sO, hA_sI, hA_sR, hA_sA, hA_sJ, hA_sO, hJ_sI, hJ_sR, hJ_sA, hJ_sJ, hJ_sO, hO_sI, hO_sR, hO_sA, hO_sJ, hO_sO, up3_eq, up2_eq, List.map_cons, List.map_nil, List.sum_cons, List.sum_nil, List.nil_append, List.cons_append, Option.toList_some, Option.toList_none, true_and, and_true, if_true, if_false, and_self, true_or, or_true, or_false, false_or, false_and, and_false, not_true_eq_false, not_false_eq_true, forall_const, reduceCtorEq, implies_true, List.contains_cons, List.contains_nil, Bool.or_false, Bool.false_or, Bool.or_true, Bool.true_or, Bool.and_true, Bool.true_and, Bool.and_false, Bool.false_and, Bool.not_true, Bool.not_false, BEq.rfl, Bool.false_eq_true, Bool.true_eq_false, eq_self, ↓reduceIte, Nat.reduceAdd, Nat.reduceEqDiff, Nat.reduceBEq, Nat.reduceLT, Nat.reduceLeDiff, Nat.reduceSub, Nat.reduceMul, Nat.reduceBNe, List.append_nil, Nat.zero_le, Nat.zero_add, Nat.zero_ne_one, Nat.one_ne_zero, false_implies, true_implies, not_false_eq_true, ne_eq, upd_e, updL_e, bI_zo, nI0z, nI1o, nI1z, nI0o, nI0q, nI1q, nm1_lt, nm1_ge, ax_aload_n tX9_init_105, ax_bipush tX9_init_106, ax_newarray tX9_init_108, ax_putR tX9_init_110, ax_putN tX9_init_110]
  try simp (disch := omega) only [z0, o1, nI_add, pk_mul, nI_ltI, nI_leI, nI_eq, nI_clamp, vpn, pk_sub, Nat.add_sub_cancel, bI_0, bI_1, eq_self, true_or, or_true, or_false, false_or, true_and, and_true, false_and, and_false, and_self, or_self, forall_const, not_true_eq_false, not_false_eq_true, false_implies, implies_true, true_implies, ↓reduceIte, if_true, if_false, Nat.not_lt_zero, Nat.zero_le, Nat.le_refl, Nat.lt_irrefl, ne_eq, reduceCtorEq, Bool.false_eq_true]
  repeat (refine ⟨by omega, ?_⟩)
  intro y hy
  have nu : x ≠ y := fun q => by rw [q] at ku; omega
  have km : hK (nA h 112 y 32) x = 11 := by rw [hK_nA, va_up_eq, if_neg nu]; exact ku
  refine ⟨km, ?_⟩
  exact hq y _ (i.step (NEWF_A hy) hy hk (ra_new rfl rfl (by omega)) (by decide))
set_option maxRecDepth 100000 in
set_option maxHeartbeats 1600000 in
theorem ri_113 (i : RIN h0 x h ks xa sc) (hk : ¬ 12 ∈ ks) (hq : ∀ y h', RIN h0 x h' (12 :: ks) (va_up xa 12 y) sc → gG B mX9_init (d + 1) c n 121 [(0, .ref x)] [] h' Q) : gG B mX9_init (d + 1) (c + 1) (n + 32) 113 [(0, .ref x)] [] h Q := by
  have ku := i.1
  refine gAx (cut := [(121, [0])]) okX9_init 20 ?_
  simp only [axC_nil, axC_hit, axC_def, cutAt, lvLive, Option.isSome_none, Option.isSome_some, catS, lvGet, lvIns, lvSet1, lvSet2, gLit_0, gLit_1, lv_args, fv0, fv1, fv2, fv3, isI_s, isL_s, isRf_s, isRf_n, gtI_s, gtL_s, gtV_s, gFilter_nil, gFilter_cons, gL1, gL2, gL3, gL4, gL5, va_rf_s, va_rf_n, hK_sI, hK_sR, hK_sA, hK_sJ, hK_sO, hI_sI, hI_sR, hI_sA, hI_sJ, hI_sO, hR_sI, hR_sR, hR_sA, hR_sJ, hR_sO, hN_sI, hN_sR, hN_sA, hN_sJ, hN_sO, hA_sI, hA_sR, hA_sA, hA_sJ, hA_sO, hJ_sI, hJ_sR, hJ_sA, hJ_sJ, hJ_sO, hO_sI, hO_sR, hO_sA, hO_sJ, hO_sO, up3_eq, up2_eq, List.map_cons, List.map_nil, List.sum_cons, List.sum_nil, List.nil_append, List.cons_append, Option.toList_some, Option.toList_none, true_and, and_true, if_true, if_false, and_self, true_or, or_true, or_false, false_or, false_and, and_false, not_true_eq_false, not_false_eq_true, forall_const, reduceCtorEq, implies_true, List.contains_cons, List.contains_nil, Bool.or_false, Bool.false_or, Bool.or_true, Bool.true_or, Bool.and_true, Bool.true_and, Bool.and_false, Bool.false_and, Bool.not_true, Bool.not_false, BEq.rfl, Bool.false_eq_true, Bool.true_eq_false, eq_self, ↓reduceIte, Nat.reduceAdd, Nat.reduceEqDiff, Nat.reduceBEq, Nat.reduceLT, Nat.reduceLeDiff, Nat.reduceSub, Nat.reduceMul, Nat.reduceBNe, List.append_nil, Nat.zero_le, Nat.zero_add, Nat.zero_ne_one, Nat.one_ne_zero, false_implies, true_implies, not_false_eq_true, ne_eq, upd_e, updL_e, bI_zo, nI0z, nI1o, nI1z, nI0o, nI0q, nI1q, nm1_lt, nm1_ge, ax_aload_n tX9_init_113, ax_bipush tX9_init_114, ax_newarray tX9_init_116, ax_putR tX9_init_118, ax_putN tX9_init_118]
  try simp (disch := omega) only [z0, o1, nI_add, pk_mul, nI_ltI, nI_leI, nI_eq, nI_clamp, vpn, pk_sub, Nat.add_sub_cancel, bI_0, bI_1, eq_self, true_or, or_true, or_false, false_or, true_and, and_true, false_and, and_false, and_self, or_self, forall_const, not_true_eq_false, not_false_eq_true, false_implies, implies_true, true_implies, ↓reduceIte, if_true, if_false, Nat.not_lt_zero, Nat.zero_le, Nat.le_refl, Nat.lt_irrefl, ne_eq, reduceCtorEq, Bool.false_eq_true]
  repeat (refine ⟨by omega, ?_⟩)
  intro y hy
  have nu : x ≠ y := fun q => by rw [q] at ku; omega
  have km : hK (nA h 112 y 32) x = 11 := by rw [hK_nA, va_up_eq, if_neg nu]; exact ku
  refine ⟨km, ?_⟩
  exact hq y _ (i.step (NEWF_A hy) hy hk (ra_new rfl rfl (by omega)) (by decide))
set_option maxRecDepth 100000 in
set_option maxHeartbeats 1600000 in
theorem ri_121 (i : RIN h0 x h ks xa sc) (hk : ¬ 13 ∈ ks) (hq : ∀ y h', RIN h0 x h' (13 :: ks) (va_up xa 13 y) sc → gG B mX9_init (d + 1) c n 130 [(0, .ref x)] [] h' Q) : gG B mX9_init (d + 1) (c + 1) (n + 1320) 121 [(0, .ref x)] [] h Q := by
  have ku := i.1
  refine gAx (cut := [(130, [0])]) okX9_init 20 ?_
  simp only [axC_nil, axC_hit, axC_def, cutAt, lvLive, Option.isSome_none, Option.isSome_some, catS, lvGet, lvIns, lvSet1, lvSet2, gLit_0, gLit_1, lv_args, fv0, fv1, fv2, fv3, isI_s, isL_s, isRf_s, isRf_n, gtI_s, gtL_s, gtV_s, gFilter_nil, gFilter_cons, gL1, gL2, gL3, gL4, gL5, va_rf_s, va_rf_n, hK_sI, hK_sR, hK_sA, hK_sJ, hK_sO, hI_sI, hI_sR, hI_sA, hI_sJ, hI_sO, hR_sI, hR_sR, hR_sA, hR_sJ, hR_sO, hN_sI, hN_sR, hN_sA, hN_sJ, hN_sO, hA_sI, hA_sR, hA_sA, hA_sJ, hA_sO, hJ_sI, hJ_sR, hJ_sA, hJ_sJ, hJ_sO, hO_sI, hO_sR, hO_sA, hO_sJ, hO_sO, up3_eq, up2_eq, List.map_cons, List.map_nil, List.sum_cons, List.sum_nil, List.nil_append, List.cons_append, Option.toList_some, Option.toList_none, true_and, and_true, if_true, if_false, and_self, true_or, or_true, or_false, false_or, false_and, and_false, not_true_eq_false, not_false_eq_true, forall_const, reduceCtorEq, implies_true, List.contains_cons, List.contains_nil, Bool.or_false, Bool.false_or, Bool.or_true, Bool.true_or, Bool.and_true, Bool.true_and, Bool.and_false, Bool.false_and, Bool.not_true, Bool.not_false, BEq.rfl, Bool.false_eq_true, Bool.true_eq_false, eq_self, ↓reduceIte, Nat.reduceAdd, Nat.reduceEqDiff, Nat.reduceBEq, Nat.reduceLT, Nat.reduceLeDiff, Nat.reduceSub, Nat.reduceMul, Nat.reduceBNe, List.append_nil, Nat.zero_le, Nat.zero_add, Nat.zero_ne_one, Nat.one_ne_zero, false_implies, true_implies, not_false_eq_true, ne_eq, upd_e, updL_e, bI_zo, nI0z, nI1o, nI1z, nI0o, nI0q, nI1q, nm1_lt, nm1_ge, ax_aload_n tX9_init_121, ax_sipush tX9_init_122, ax_newarray tX9_init_125, ax_putR tX9_init_127, ax_putN tX9_init_127]
  try simp (disch := omega) only [z0, o1, nI_add, pk_mul, nI_ltI, nI_leI, nI_eq, nI_clamp, vpn, pk_sub, Nat.add_sub_cancel, bI_0, bI_1, eq_self, true_or, or_true, or_false, false_or, true_and, and_true, false_and, and_false, and_self, or_self, forall_const, not_true_eq_false, not_false_eq_true, false_implies, implies_true, true_implies, ↓reduceIte, if_true, if_false, Nat.not_lt_zero, Nat.zero_le, Nat.le_refl, Nat.lt_irrefl, ne_eq, reduceCtorEq, Bool.false_eq_true]
  repeat (refine ⟨by omega, ?_⟩)
  intro y hy
  have nu : x ≠ y := fun q => by rw [q] at ku; omega
  have km : hK (nA h 112 y 1320) x = 11 := by rw [hK_nA, va_up_eq, if_neg nu]; exact ku
  refine ⟨km, ?_⟩
  exact hq y _ (i.step (NEWF_A hy) hy hk (ra_new rfl rfl (by omega)) (by decide))
set_option maxRecDepth 100000 in
set_option maxHeartbeats 1600000 in
theorem ri_130 (i : RIN h0 x h ks xa sc) (hk : ¬ 14 ∈ ks) (hq : ∀ y h', RIN h0 x h' (14 :: ks) (va_up xa 14 y) sc → gG B mX9_init (d + 1) c n 139 [(0, .ref x)] [] h' Q) : gG B mX9_init (d + 1) (c + 1) (n + 1320) 130 [(0, .ref x)] [] h Q := by
  have ku := i.1
  refine gAx (cut := [(139, [0])]) okX9_init 20 ?_
  simp only [axC_nil, axC_hit, axC_def, cutAt, lvLive, Option.isSome_none, Option.isSome_some, catS, lvGet, lvIns, lvSet1, lvSet2, gLit_0, gLit_1, lv_args, fv0, fv1, fv2, fv3, isI_s, isL_s, isRf_s, isRf_n, gtI_s, gtL_s, gtV_s, gFilter_nil, gFilter_cons, gL1, gL2, gL3, gL4, gL5, va_rf_s, va_rf_n, hK_sI, hK_sR, hK_sA, hK_sJ, hK_sO, hI_sI, hI_sR, hI_sA, hI_sJ, hI_sO, hR_sI, hR_sR, hR_sA, hR_sJ, hR_sO, hN_sI, hN_sR, hN_sA, hN_sJ, hN_sO, hA_sI, hA_sR, hA_sA, hA_sJ, hA_sO, hJ_sI, hJ_sR, hJ_sA, hJ_sJ, hJ_sO, hO_sI, hO_sR, hO_sA, hO_sJ, hO_sO, up3_eq, up2_eq, List.map_cons, List.map_nil, List.sum_cons, List.sum_nil, List.nil_append, List.cons_append, Option.toList_some, Option.toList_none, true_and, and_true, if_true, if_false, and_self, true_or, or_true, or_false, false_or, false_and, and_false, not_true_eq_false, not_false_eq_true, forall_const, reduceCtorEq, implies_true, List.contains_cons, List.contains_nil, Bool.or_false, Bool.false_or, Bool.or_true, Bool.true_or, Bool.and_true, Bool.true_and, Bool.and_false, Bool.false_and, Bool.not_true, Bool.not_false, BEq.rfl, Bool.false_eq_true, Bool.true_eq_false, eq_self, ↓reduceIte, Nat.reduceAdd, Nat.reduceEqDiff, Nat.reduceBEq, Nat.reduceLT, Nat.reduceLeDiff, Nat.reduceSub, Nat.reduceMul, Nat.reduceBNe, List.append_nil, Nat.zero_le, Nat.zero_add, Nat.zero_ne_one, Nat.one_ne_zero, false_implies, true_implies, not_false_eq_true, ne_eq, upd_e, updL_e, bI_zo, nI0z, nI1o, nI1z, nI0o, nI0q, nI1q, nm1_lt, nm1_ge, ax_aload_n tX9_init_130, ax_sipush tX9_init_131, ax_newarray tX9_init_134, ax_putR tX9_init_136, ax_putN tX9_init_136]
  try simp (disch := omega) only [z0, o1, nI_add, pk_mul, nI_ltI, nI_leI, nI_eq, nI_clamp, vpn, pk_sub, Nat.add_sub_cancel, bI_0, bI_1, eq_self, true_or, or_true, or_false, false_or, true_and, and_true, false_and, and_false, and_self, or_self, forall_const, not_true_eq_false, not_false_eq_true, false_implies, implies_true, true_implies, ↓reduceIte, if_true, if_false, Nat.not_lt_zero, Nat.zero_le, Nat.le_refl, Nat.lt_irrefl, ne_eq, reduceCtorEq, Bool.false_eq_true]
  repeat (refine ⟨by omega, ?_⟩)
  intro y hy
  have nu : x ≠ y := fun q => by rw [q] at ku; omega
  have km : hK (nA h 112 y 1320) x = 11 := by rw [hK_nA, va_up_eq, if_neg nu]; exact ku
  refine ⟨km, ?_⟩
  exact hq y _ (i.step (NEWF_A hy) hy hk (ra_new rfl rfl (by omega)) (by decide))
set_option maxRecDepth 100000 in
set_option maxHeartbeats 1600000 in
theorem ri_139 (i : RIN h0 x h ks xa sc) (hk : ¬ 19 ∈ ks) (hq : ∀ y h', RIN h0 x h' (19 :: ks) (va_up xa 19 y) sc → gG B mX9_init (d + 1) c n 147 [(0, .ref x)] [] h' Q) : gG B mX9_init (d + 1) (c + 1) (n + 7) 139 [(0, .ref x)] [] h Q := by
  have ku := i.1
  refine gAx (cut := [(147, [0])]) okX9_init 20 ?_
  simp only [axC_nil, axC_hit, axC_def, cutAt, lvLive, Option.isSome_none, Option.isSome_some, catS, lvGet, lvIns, lvSet1, lvSet2, gLit_0, gLit_1, lv_args, fv0, fv1, fv2, fv3, isI_s, isL_s, isRf_s, isRf_n, gtI_s, gtL_s, gtV_s, gFilter_nil, gFilter_cons, gL1, gL2, gL3, gL4, gL5, va_rf_s, va_rf_n, hK_sI, hK_sR, hK_sA, hK_sJ, hK_sO, hI_sI, hI_sR, hI_sA, hI_sJ, hI_sO, hR_sI, hR_sR, hR_sA, hR_sJ, hR_sO, hN_sI, hN_sR, hN_sA, hN_sJ, hN_sO, hA_sI, hA_sR, hA_sA, hA_sJ, hA_sO, hJ_sI, hJ_sR, hJ_sA, hJ_sJ, hJ_sO, hO_sI, hO_sR, hO_sA, hO_sJ, hO_sO, up3_eq, up2_eq, List.map_cons, List.map_nil, List.sum_cons, List.sum_nil, List.nil_append, List.cons_append, Option.toList_some, Option.toList_none, true_and, and_true, if_true, if_false, and_self, true_or, or_true, or_false, false_or, false_and, and_false, not_true_eq_false, not_false_eq_true, forall_const, reduceCtorEq, implies_true, List.contains_cons, List.contains_nil, Bool.or_false, Bool.false_or, Bool.or_true, Bool.true_or, Bool.and_true, Bool.true_and, Bool.and_false, Bool.false_and, Bool.not_true, Bool.not_false, BEq.rfl, Bool.false_eq_true, Bool.true_eq_false, eq_self, ↓reduceIte, Nat.reduceAdd, Nat.reduceEqDiff, Nat.reduceBEq, Nat.reduceLT, Nat.reduceLeDiff, Nat.reduceSub, Nat.reduceMul, Nat.reduceBNe, List.append_nil, Nat.zero_le, Nat.zero_add, Nat.zero_ne_one, Nat.one_ne_zero, false_implies, true_implies, not_false_eq_true, ne_eq, upd_e, updL_e, bI_zo, nI0z, nI1o, nI1z, nI0o, nI0q, nI1q, nm1_lt, nm1_ge, ax_aload_n tX9_init_139, ax_bipush tX9_init_140, ax_newarray tX9_init_142, ax_putR tX9_init_144, ax_putN tX9_init_144]
  try simp (disch := omega) only [z0, o1, nI_add, pk_mul, nI_ltI, nI_leI, nI_eq, nI_clamp, vpn, pk_sub, Nat.add_sub_cancel, bI_0, bI_1, eq_self, true_or, or_true, or_false, false_or, true_and, and_true, false_and, and_false, and_self, or_self, forall_const, not_true_eq_false, not_false_eq_true, false_implies, implies_true, true_implies, ↓reduceIte, if_true, if_false, Nat.not_lt_zero, Nat.zero_le, Nat.le_refl, Nat.lt_irrefl, ne_eq, reduceCtorEq, Bool.false_eq_true]
  repeat (refine ⟨by omega, ?_⟩)
  intro y hy
  have nu : x ≠ y := fun q => by rw [q] at ku; omega
  have km : hK (nA h 112 y 7) x = 11 := by rw [hK_nA, va_up_eq, if_neg nu]; exact ku
  refine ⟨km, ?_⟩
  exact hq y _ (i.step (NEWF_A hy) hy hk (ra_new rfl rfl (by omega)) (by decide))
set_option maxRecDepth 100000 in
set_option maxHeartbeats 1600000 in
theorem ri_147 (i : RIN h0 x h ks xa sc) (hk : ¬ 20 ∈ ks) (hq : ∀ y h', RIN h0 x h' (20 :: ks) (va_up xa 20 y) sc → gG B mX9_init (d + 1) c n 155 [(0, .ref x)] [] h' Q) : gG B mX9_init (d + 1) (c + 1) (n + 7) 147 [(0, .ref x)] [] h Q := by
  have ku := i.1
  refine gAx (cut := [(155, [0])]) okX9_init 20 ?_
  simp only [axC_nil, axC_hit, axC_def, cutAt, lvLive, Option.isSome_none, Option.isSome_some, catS, lvGet, lvIns, lvSet1, lvSet2, gLit_0, gLit_1, lv_args, fv0, fv1, fv2, fv3, isI_s, isL_s, isRf_s, isRf_n, gtI_s, gtL_s, gtV_s, gFilter_nil, gFilter_cons, gL1, gL2, gL3, gL4, gL5, va_rf_s, va_rf_n, hK_sI, hK_sR, hK_sA, hK_sJ, hK_sO, hI_sI, hI_sR, hI_sA, hI_sJ, hI_sO, hR_sI, hR_sR, hR_sA, hR_sJ, hR_sO, hN_sI, hN_sR, hN_sA, hN_sJ, hN_sO, hA_sI, hA_sR, hA_sA, hA_sJ, hA_sO, hJ_sI, hJ_sR, hJ_sA, hJ_sJ, hJ_sO, hO_sI, hO_sR, hO_sA, hO_sJ, hO_sO, up3_eq, up2_eq, List.map_cons, List.map_nil, List.sum_cons, List.sum_nil, List.nil_append, List.cons_append, Option.toList_some, Option.toList_none, true_and, and_true, if_true, if_false, and_self, true_or, or_true, or_false, false_or, false_and, and_false, not_true_eq_false, not_false_eq_true, forall_const, reduceCtorEq, implies_true, List.contains_cons, List.contains_nil, Bool.or_false, Bool.false_or, Bool.or_true, Bool.true_or, Bool.and_true, Bool.true_and, Bool.and_false, Bool.false_and, Bool.not_true, Bool.not_false, BEq.rfl, Bool.false_eq_true, Bool.true_eq_false, eq_self, ↓reduceIte, Nat.reduceAdd, Nat.reduceEqDiff, Nat.reduceBEq, Nat.reduceLT, Nat.reduceLeDiff, Nat.reduceSub, Nat.reduceMul, Nat.reduceBNe, List.append_nil, Nat.zero_le, Nat.zero_add, Nat.zero_ne_one, Nat.one_ne_zero, false_implies, true_implies, not_false_eq_true, ne_eq, upd_e, updL_e, bI_zo, nI0z, nI1o, nI1z, nI0o, nI0q, nI1q, nm1_lt, nm1_ge, ax_aload_n tX9_init_147, ax_bipush tX9_init_148, ax_newarray tX9_init_150, ax_putR tX9_init_152, ax_putN tX9_init_152]
  try simp (disch := omega) only [z0, o1, nI_add, pk_mul, nI_ltI, nI_leI, nI_eq, nI_clamp, vpn, pk_sub, Nat.add_sub_cancel, bI_0, bI_1, eq_self, true_or, or_true, or_false, false_or, true_and, and_true, false_and, and_false, and_self, or_self, forall_const, not_true_eq_false, not_false_eq_true, false_implies, implies_true, true_implies, ↓reduceIte, if_true, if_false, Nat.not_lt_zero, Nat.zero_le, Nat.le_refl, Nat.lt_irrefl, ne_eq, reduceCtorEq, Bool.false_eq_true]
  repeat (refine ⟨by omega, ?_⟩)
  intro y hy
  have nu : x ≠ y := fun q => by rw [q] at ku; omega
  have km : hK (nA h 112 y 7) x = 11 := by rw [hK_nA, va_up_eq, if_neg nu]; exact ku
  refine ⟨km, ?_⟩
  exact hq y _ (i.step (NEWF_A hy) hy hk (ra_new rfl rfl (by omega)) (by decide))
set_option maxRecDepth 100000 in
set_option maxHeartbeats 1600000 in
theorem ri_155 (i : RIN h0 x h ks xa sc) (hk : ¬ 21 ∈ ks) (hq : ∀ y h', RIN h0 x h' (21 :: ks) (va_up xa 21 y) sc → gG B mX9_init (d + 1) c n 163 [(0, .ref x)] [] h' Q) : gG B mX9_init (d + 1) (c + 1) (n + 7) 155 [(0, .ref x)] [] h Q := by
  have ku := i.1
  refine gAx (cut := [(163, [0])]) okX9_init 20 ?_
  simp only [axC_nil, axC_hit, axC_def, cutAt, lvLive, Option.isSome_none, Option.isSome_some, catS, lvGet, lvIns, lvSet1, lvSet2, gLit_0, gLit_1, lv_args, fv0, fv1, fv2, fv3, isI_s, isL_s, isRf_s, isRf_n, gtI_s, gtL_s, gtV_s, gFilter_nil, gFilter_cons, gL1, gL2, gL3, gL4, gL5, va_rf_s, va_rf_n, hK_sI, hK_sR, hK_sA, hK_sJ, hK_sO, hI_sI, hI_sR, hI_sA, hI_sJ, hI_sO, hR_sI, hR_sR, hR_sA, hR_sJ, hR_sO, hN_sI, hN_sR, hN_sA, hN_sJ, hN_sO, hA_sI, hA_sR, hA_sA, hA_sJ, hA_sO, hJ_sI, hJ_sR, hJ_sA, hJ_sJ, hJ_sO, hO_sI, hO_sR, hO_sA, hO_sJ, hO_sO, up3_eq, up2_eq, List.map_cons, List.map_nil, List.sum_cons, List.sum_nil, List.nil_append, List.cons_append, Option.toList_some, Option.toList_none, true_and, and_true, if_true, if_false, and_self, true_or, or_true, or_false, false_or, false_and, and_false, not_true_eq_false, not_false_eq_true, forall_const, reduceCtorEq, implies_true, List.contains_cons, List.contains_nil, Bool.or_false, Bool.false_or, Bool.or_true, Bool.true_or, Bool.and_true, Bool.true_and, Bool.and_false, Bool.false_and, Bool.not_true, Bool.not_false, BEq.rfl, Bool.false_eq_true, Bool.true_eq_false, eq_self, ↓reduceIte, Nat.reduceAdd, Nat.reduceEqDiff, Nat.reduceBEq, Nat.reduceLT, Nat.reduceLeDiff, Nat.reduceSub, Nat.reduceMul, Nat.reduceBNe, List.append_nil, Nat.zero_le, Nat.zero_add, Nat.zero_ne_one, Nat.one_ne_zero, false_implies, true_implies, not_false_eq_true, ne_eq, upd_e, updL_e, bI_zo, nI0z, nI1o, nI1z, nI0o, nI0q, nI1q, nm1_lt, nm1_ge, ax_aload_n tX9_init_155, ax_bipush tX9_init_156, ax_newarray tX9_init_158, ax_putR tX9_init_160, ax_putN tX9_init_160]
  try simp (disch := omega) only [z0, o1, nI_add, pk_mul, nI_ltI, nI_leI, nI_eq, nI_clamp, vpn, pk_sub, Nat.add_sub_cancel, bI_0, bI_1, eq_self, true_or, or_true, or_false, false_or, true_and, and_true, false_and, and_false, and_self, or_self, forall_const, not_true_eq_false, not_false_eq_true, false_implies, implies_true, true_implies, ↓reduceIte, if_true, if_false, Nat.not_lt_zero, Nat.zero_le, Nat.le_refl, Nat.lt_irrefl, ne_eq, reduceCtorEq, Bool.false_eq_true]
  repeat (refine ⟨by omega, ?_⟩)
  intro y hy
  have nu : x ≠ y := fun q => by rw [q] at ku; omega
  have km : hK (nA h 112 y 7) x = 11 := by rw [hK_nA, va_up_eq, if_neg nu]; exact ku
  refine ⟨km, ?_⟩
  exact hq y _ (i.step (NEWF_A hy) hy hk (ra_new rfl rfl (by omega)) (by decide))
set_option maxRecDepth 100000 in
set_option maxHeartbeats 1600000 in
theorem ri_163 (i : RIN h0 x h ks xa sc) (hk : ¬ 22 ∈ ks) (hq : ∀ y h', RIN h0 x h' (22 :: ks) (va_up xa 22 y) sc → gG B mX9_init (d + 1) c n 170 [(0, .ref x)] [] h' Q) : gG B mX9_init (d + 1) (c + 1) (n + 5) 163 [(0, .ref x)] [] h Q := by
  have ku := i.1
  refine gAx (cut := [(170, [0])]) okX9_init 20 ?_
  simp only [axC_nil, axC_hit, axC_def, cutAt, lvLive, Option.isSome_none, Option.isSome_some, catS, lvGet, lvIns, lvSet1, lvSet2, gLit_0, gLit_1, lv_args, fv0, fv1, fv2, fv3, isI_s, isL_s, isRf_s, isRf_n, gtI_s, gtL_s, gtV_s, gFilter_nil, gFilter_cons, gL1, gL2, gL3, gL4, gL5, va_rf_s, va_rf_n, hK_sI, hK_sR, hK_sA, hK_sJ, hK_sO, hI_sI, hI_sR, hI_sA, hI_sJ, hI_sO, hR_sI, hR_sR, hR_sA, hR_sJ, hR_sO, hN_sI, hN_sR, hN_sA, hN_sJ, hN_sO, hA_sI, hA_sR, hA_sA, hA_sJ, hA_sO, hJ_sI, hJ_sR, hJ_sA, hJ_sJ, hJ_sO, hO_sI, hO_sR, hO_sA, hO_sJ, hO_sO, up3_eq, up2_eq, List.map_cons, List.map_nil, List.sum_cons, List.sum_nil, List.nil_append, List.cons_append, Option.toList_some, Option.toList_none, true_and, and_true, if_true, if_false, and_self, true_or, or_true, or_false, false_or, false_and, and_false, not_true_eq_false, not_false_eq_true, forall_const, reduceCtorEq, implies_true, List.contains_cons, List.contains_nil, Bool.or_false, Bool.false_or, Bool.or_true, Bool.true_or, Bool.and_true, Bool.true_and, Bool.and_false, Bool.false_and, Bool.not_true, Bool.not_false, BEq.rfl, Bool.false_eq_true, Bool.true_eq_false, eq_self, ↓reduceIte, Nat.reduceAdd, Nat.reduceEqDiff, Nat.reduceBEq, Nat.reduceLT, Nat.reduceLeDiff, Nat.reduceSub, Nat.reduceMul, Nat.reduceBNe, List.append_nil, Nat.zero_le, Nat.zero_add, Nat.zero_ne_one, Nat.one_ne_zero, false_implies, true_implies, not_false_eq_true, ne_eq, upd_e, updL_e, bI_zo, nI0z, nI1o, nI1z, nI0o, nI0q, nI1q, nm1_lt, nm1_ge, ax_aload_n tX9_init_163, ax_iconst tX9_init_164, ax_newarray tX9_init_165, ax_putR tX9_init_167, ax_putN tX9_init_167]
  try simp (disch := omega) only [z0, o1, nI_add, pk_mul, nI_ltI, nI_leI, nI_eq, nI_clamp, vpn, pk_sub, Nat.add_sub_cancel, bI_0, bI_1, eq_self, true_or, or_true, or_false, false_or, true_and, and_true, false_and, and_false, and_self, or_self, forall_const, not_true_eq_false, not_false_eq_true, false_implies, implies_true, true_implies, ↓reduceIte, if_true, if_false, Nat.not_lt_zero, Nat.zero_le, Nat.le_refl, Nat.lt_irrefl, ne_eq, reduceCtorEq, Bool.false_eq_true]
  repeat (refine ⟨by omega, ?_⟩)
  intro y hy
  have nu : x ≠ y := fun q => by rw [q] at ku; omega
  have km : hK (nA h 112 y 5) x = 11 := by rw [hK_nA, va_up_eq, if_neg nu]; exact ku
  refine ⟨km, ?_⟩
  exact hq y _ (i.step (NEWF_A hy) hy hk (ra_new rfl rfl (by omega)) (by decide))
set_option maxRecDepth 100000 in
set_option maxHeartbeats 1600000 in
theorem ri_170 (i : RIN h0 x h ks xa sc) (hk : ¬ 23 ∈ ks) (hq : ∀ y h', RIN h0 x h' (23 :: ks) (va_up xa 23 y) sc → gG B mX9_init (d + 1) c n 179 [(0, .ref x)] [] h' Q) : gG B mX9_init (d + 1) (c + 1) (n + 660) 170 [(0, .ref x)] [] h Q := by
  have ku := i.1
  refine gAx (cut := [(179, [0])]) okX9_init 20 ?_
  simp only [axC_nil, axC_hit, axC_def, cutAt, lvLive, Option.isSome_none, Option.isSome_some, catS, lvGet, lvIns, lvSet1, lvSet2, gLit_0, gLit_1, lv_args, fv0, fv1, fv2, fv3, isI_s, isL_s, isRf_s, isRf_n, gtI_s, gtL_s, gtV_s, gFilter_nil, gFilter_cons, gL1, gL2, gL3, gL4, gL5, va_rf_s, va_rf_n, hK_sI, hK_sR, hK_sA, hK_sJ, hK_sO, hI_sI, hI_sR, hI_sA, hI_sJ, hI_sO, hR_sI, hR_sR, hR_sA, hR_sJ, hR_sO, hN_sI, hN_sR, hN_sA, hN_sJ, hN_sO, hA_sI, hA_sR, hA_sA, hA_sJ, hA_sO, hJ_sI, hJ_sR, hJ_sA, hJ_sJ, hJ_sO, hO_sI, hO_sR, hO_sA, hO_sJ, hO_sO, up3_eq, up2_eq, List.map_cons, List.map_nil, List.sum_cons, List.sum_nil, List.nil_append, List.cons_append, Option.toList_some, Option.toList_none, true_and, and_true, if_true, if_false, and_self, true_or, or_true, or_false, false_or, false_and, and_false, not_true_eq_false, not_false_eq_true, forall_const, reduceCtorEq, implies_true, List.contains_cons, List.contains_nil, Bool.or_false, Bool.false_or, Bool.or_true, Bool.true_or, Bool.and_true, Bool.true_and, Bool.and_false, Bool.false_and, Bool.not_true, Bool.not_false, BEq.rfl, Bool.false_eq_true, Bool.true_eq_false, eq_self, ↓reduceIte, Nat.reduceAdd, Nat.reduceEqDiff, Nat.reduceBEq, Nat.reduceLT, Nat.reduceLeDiff, Nat.reduceSub, Nat.reduceMul, Nat.reduceBNe, List.append_nil, Nat.zero_le, Nat.zero_add, Nat.zero_ne_one, Nat.one_ne_zero, false_implies, true_implies, not_false_eq_true, ne_eq, upd_e, updL_e, bI_zo, nI0z, nI1o, nI1z, nI0o, nI0q, nI1q, nm1_lt, nm1_ge, ax_aload_n tX9_init_170, ax_sipush tX9_init_171, ax_newarray tX9_init_174, ax_putR tX9_init_176, ax_putN tX9_init_176]
  try simp (disch := omega) only [z0, o1, nI_add, pk_mul, nI_ltI, nI_leI, nI_eq, nI_clamp, vpn, pk_sub, Nat.add_sub_cancel, bI_0, bI_1, eq_self, true_or, or_true, or_false, false_or, true_and, and_true, false_and, and_false, and_self, or_self, forall_const, not_true_eq_false, not_false_eq_true, false_implies, implies_true, true_implies, ↓reduceIte, if_true, if_false, Nat.not_lt_zero, Nat.zero_le, Nat.le_refl, Nat.lt_irrefl, ne_eq, reduceCtorEq, Bool.false_eq_true]
  repeat (refine ⟨by omega, ?_⟩)
  intro y hy
  have nu : x ≠ y := fun q => by rw [q] at ku; omega
  have km : hK (nA h 112 y 660) x = 11 := by rw [hK_nA, va_up_eq, if_neg nu]; exact ku
  refine ⟨km, ?_⟩
  exact hq y _ (i.step (NEWF_A hy) hy hk (ra_new rfl rfl (by omega)) (by decide))
set_option maxRecDepth 100000 in
set_option maxHeartbeats 1600000 in
theorem ri_179 (i : RIN h0 x h ks xa sc) (hq : ∀ h', RIN h0 x h' ks xa (va_up sc 25 1) → gG B mX9_init (d + 1) c n 184 [(0, .ref x)] [] h' Q) : gG B mX9_init (d + 1) c n 179 [(0, .ref x)] [] h Q := by
  have ku := i.1
  refine gAx (cut := [(184, [0])]) okX9_init 20 ?_
  simp only [axC_nil, axC_hit, axC_def, cutAt, lvLive, Option.isSome_none, Option.isSome_some, catS, lvGet, lvIns, lvSet1, lvSet2, gLit_0, gLit_1, lv_args, fv0, fv1, fv2, fv3, isI_s, isL_s, isRf_s, isRf_n, gtI_s, gtL_s, gtV_s, gFilter_nil, gFilter_cons, gL1, gL2, gL3, gL4, gL5, va_rf_s, va_rf_n, hK_sI, hK_sR, hK_sA, hK_sJ, hK_sO, hI_sI, hI_sR, hI_sA, hI_sJ, hI_sO, hR_sI, hR_sR, hR_sA, hR_sJ, hR_sO, hN_sI, hN_sR, hN_sA, hN_sJ, hN_sO, hA_sI, hA_sR, hA_sA, hA_sJ, hA_sO, hJ_sI, hJ_sR, hJ_sA, hJ_sJ, hJ_sO, hO_sI, hO_sR, hO_sA, hO_sJ, hO_sO, up3_eq, up2_eq, List.map_cons, List.map_nil, List.sum_cons, List.sum_nil, List.nil_append, List.cons_append, Option.toList_some, Option.toList_none, true_and, and_true, if_true, if_false, and_self, true_or, or_true, or_false, false_or, false_and, and_false, not_true_eq_false, not_false_eq_true, forall_const, reduceCtorEq, implies_true, List.contains_cons, List.contains_nil, Bool.or_false, Bool.false_or, Bool.or_true, Bool.true_or, Bool.and_true, Bool.true_and, Bool.and_false, Bool.false_and, Bool.not_true, Bool.not_false, BEq.rfl, Bool.false_eq_true, Bool.true_eq_false, eq_self, ↓reduceIte, Nat.reduceAdd, Nat.reduceEqDiff, Nat.reduceBEq, Nat.reduceLT, Nat.reduceLeDiff, Nat.reduceSub, Nat.reduceMul, Nat.reduceBNe, List.append_nil, Nat.zero_le, Nat.zero_add, Nat.zero_ne_one, Nat.one_ne_zero, false_implies, true_implies, not_false_eq_true, ne_eq, upd_e, updL_e, bI_zo, nI0z, nI1o, nI1z, nI0o, nI0q, nI1q, nm1_lt, nm1_ge, ax_aload_n tX9_init_179, ax_iconst tX9_init_180, ax_putI tX9_init_181, ku]
  exact hq _ i.num
set_option maxRecDepth 100000 in
set_option maxHeartbeats 1600000 in
theorem ri_184 (i : RIN h0 x h ks xa sc) (hk : ¬ 26 ∈ ks) (hq : ∀ y h', RIN h0 x h' (26 :: ks) (va_up xa 26 y) sc → gG B mX9_init (d + 1) c n 192 [(0, .ref x)] [] h' Q) : gG B mX9_init (d + 1) (c + 1) (n + 20) 184 [(0, .ref x)] [] h Q := by
  have ku := i.1
  refine gAx (cut := [(192, [0])]) okX9_init 20 ?_
  simp only [axC_nil, axC_hit, axC_def, cutAt, lvLive, Option.isSome_none, Option.isSome_some, catS, lvGet, lvIns, lvSet1, lvSet2, gLit_0, gLit_1, lv_args, fv0, fv1, fv2, fv3, isI_s, isL_s, isRf_s, isRf_n, gtI_s, gtL_s, gtV_s, gFilter_nil, gFilter_cons, gL1, gL2, gL3, gL4, gL5, va_rf_s, va_rf_n, hK_sI, hK_sR, hK_sA, hK_sJ, hK_sO, hI_sI, hI_sR, hI_sA, hI_sJ, hI_sO, hR_sI, hR_sR, hR_sA, hR_sJ, hR_sO, hN_sI, hN_sR, hN_sA, hN_sJ, hN_sO, hA_sI, hA_sR, hA_sA, hA_sJ, hA_sO, hJ_sI, hJ_sR, hJ_sA, hJ_sJ, hJ_sO, hO_sI, hO_sR, hO_sA, hO_sJ, hO_sO, up3_eq, up2_eq, List.map_cons, List.map_nil, List.sum_cons, List.sum_nil, List.nil_append, List.cons_append, Option.toList_some, Option.toList_none, true_and, and_true, if_true, if_false, and_self, true_or, or_true, or_false, false_or, false_and, and_false, not_true_eq_false, not_false_eq_true, forall_const, reduceCtorEq, implies_true, List.contains_cons, List.contains_nil, Bool.or_false, Bool.false_or, Bool.or_true, Bool.true_or, Bool.and_true, Bool.true_and, Bool.and_false, Bool.false_and, Bool.not_true, Bool.not_false, BEq.rfl, Bool.false_eq_true, Bool.true_eq_false, eq_self, ↓reduceIte, Nat.reduceAdd, Nat.reduceEqDiff, Nat.reduceBEq, Nat.reduceLT, Nat.reduceLeDiff, Nat.reduceSub, Nat.reduceMul, Nat.reduceBNe, List.append_nil, Nat.zero_le, Nat.zero_add, Nat.zero_ne_one, Nat.one_ne_zero, false_implies, true_implies, not_false_eq_true, ne_eq, upd_e, updL_e, bI_zo, nI0z, nI1o, nI1z, nI0o, nI0q, nI1q, nm1_lt, nm1_ge, ax_aload_n tX9_init_184, ax_bipush tX9_init_185, ax_newarray tX9_init_187, ax_putR tX9_init_189, ax_putN tX9_init_189]
  try simp (disch := omega) only [z0, o1, nI_add, pk_mul, nI_ltI, nI_leI, nI_eq, nI_clamp, vpn, pk_sub, Nat.add_sub_cancel, bI_0, bI_1, eq_self, true_or, or_true, or_false, false_or, true_and, and_true, false_and, and_false, and_self, or_self, forall_const, not_true_eq_false, not_false_eq_true, false_implies, implies_true, true_implies, ↓reduceIte, if_true, if_false, Nat.not_lt_zero, Nat.zero_le, Nat.le_refl, Nat.lt_irrefl, ne_eq, reduceCtorEq, Bool.false_eq_true]
  repeat (refine ⟨by omega, ?_⟩)
  intro y hy
  have nu : x ≠ y := fun q => by rw [q] at ku; omega
  have km : hK (nA h 112 y 20) x = 11 := by rw [hK_nA, va_up_eq, if_neg nu]; exact ku
  refine ⟨km, ?_⟩
  exact hq y _ (i.step (NEWF_A hy) hy hk (ra_new rfl rfl (by omega)) (by decide))
set_option maxRecDepth 100000 in
set_option maxHeartbeats 1600000 in
theorem ri_192 (i : RIN h0 x h ks xa sc) (hk : ¬ 28 ∈ ks) (hq : ∀ y h', RIN h0 x h' (28 :: ks) (va_up xa 28 y) sc → gG B mX9_init (d + 1) c n 200 [(0, .ref x)] [] h' Q) : gG B mX9_init (d + 1) (c + 1) (n + 40) 192 [(0, .ref x)] [] h Q := by
  have ku := i.1
  refine gAx (cut := [(200, [0])]) okX9_init 20 ?_
  simp only [axC_nil, axC_hit, axC_def, cutAt, lvLive, Option.isSome_none, Option.isSome_some, catS, lvGet, lvIns, lvSet1, lvSet2, gLit_0, gLit_1, lv_args, fv0, fv1, fv2, fv3, isI_s, isL_s, isRf_s, isRf_n, gtI_s, gtL_s, gtV_s, gFilter_nil, gFilter_cons, gL1, gL2, gL3, gL4, gL5, va_rf_s, va_rf_n, hK_sI, hK_sR, hK_sA, hK_sJ, hK_sO, hI_sI, hI_sR, hI_sA, hI_sJ, hI_sO, hR_sI, hR_sR, hR_sA, hR_sJ, hR_sO, hN_sI, hN_sR, hN_sA, hN_sJ, hN_sO, hA_sI, hA_sR, hA_sA, hA_sJ, hA_sO, hJ_sI, hJ_sR, hJ_sA, hJ_sJ, hJ_sO, hO_sI, hO_sR, hO_sA, hO_sJ, hO_sO, up3_eq, up2_eq, List.map_cons, List.map_nil, List.sum_cons, List.sum_nil, List.nil_append, List.cons_append, Option.toList_some, Option.toList_none, true_and, and_true, if_true, if_false, and_self, true_or, or_true, or_false, false_or, false_and, and_false, not_true_eq_false, not_false_eq_true, forall_const, reduceCtorEq, implies_true, List.contains_cons, List.contains_nil, Bool.or_false, Bool.false_or, Bool.or_true, Bool.true_or, Bool.and_true, Bool.true_and, Bool.and_false, Bool.false_and, Bool.not_true, Bool.not_false, BEq.rfl, Bool.false_eq_true, Bool.true_eq_false, eq_self, ↓reduceIte, Nat.reduceAdd, Nat.reduceEqDiff, Nat.reduceBEq, Nat.reduceLT, Nat.reduceLeDiff, Nat.reduceSub, Nat.reduceMul, Nat.reduceBNe, List.append_nil, Nat.zero_le, Nat.zero_add, Nat.zero_ne_one, Nat.one_ne_zero, false_implies, true_implies, not_false_eq_true, ne_eq, upd_e, updL_e, bI_zo, nI0z, nI1o, nI1z, nI0o, nI0q, nI1q, nm1_lt, nm1_ge, ax_aload_n tX9_init_192, ax_bipush tX9_init_193, ax_newarray tX9_init_195, ax_putR tX9_init_197, ax_putN tX9_init_197]
  try simp (disch := omega) only [z0, o1, nI_add, pk_mul, nI_ltI, nI_leI, nI_eq, nI_clamp, vpn, pk_sub, Nat.add_sub_cancel, bI_0, bI_1, eq_self, true_or, or_true, or_false, false_or, true_and, and_true, false_and, and_false, and_self, or_self, forall_const, not_true_eq_false, not_false_eq_true, false_implies, implies_true, true_implies, ↓reduceIte, if_true, if_false, Nat.not_lt_zero, Nat.zero_le, Nat.le_refl, Nat.lt_irrefl, ne_eq, reduceCtorEq, Bool.false_eq_true]
  repeat (refine ⟨by omega, ?_⟩)
  intro y hy
  have nu : x ≠ y := fun q => by rw [q] at ku; omega
  have km : hK (nA h 112 y 40) x = 11 := by rw [hK_nA, va_up_eq, if_neg nu]; exact ku
  refine ⟨km, ?_⟩
  exact hq y _ (i.step (NEWF_A hy) hy hk (ra_new rfl rfl (by omega)) (by decide))
set_option maxRecDepth 100000 in
set_option maxHeartbeats 1600000 in
theorem ri_200 (i : RIN h0 x h ks xa sc) (hk : ¬ 29 ∈ ks) (hq : ∀ y h', RIN h0 x h' (29 :: ks) (va_up xa 29 y) sc → gG B mX9_init (d + 1) c n 208 [(0, .ref x)] [] h' Q) : gG B mX9_init (d + 1) (c + 1) (n + 40) 200 [(0, .ref x)] [] h Q := by
  have ku := i.1
  refine gAx (cut := [(208, [0])]) okX9_init 20 ?_
  simp only [axC_nil, axC_hit, axC_def, cutAt, lvLive, Option.isSome_none, Option.isSome_some, catS, lvGet, lvIns, lvSet1, lvSet2, gLit_0, gLit_1, lv_args, fv0, fv1, fv2, fv3, isI_s, isL_s, isRf_s, isRf_n, gtI_s, gtL_s, gtV_s, gFilter_nil, gFilter_cons, gL1, gL2, gL3, gL4, gL5, va_rf_s, va_rf_n, hK_sI, hK_sR, hK_sA, hK_sJ, hK_sO, hI_sI, hI_sR, hI_sA, hI_sJ, hI_sO, hR_sI, hR_sR, hR_sA, hR_sJ, hR_sO, hN_sI, hN_sR, hN_sA, hN_sJ, hN_sO, hA_sI, hA_sR, hA_sA, hA_sJ, hA_sO, hJ_sI, hJ_sR, hJ_sA, hJ_sJ, hJ_sO, hO_sI, hO_sR, hO_sA, hO_sJ, hO_sO, up3_eq, up2_eq, List.map_cons, List.map_nil, List.sum_cons, List.sum_nil, List.nil_append, List.cons_append, Option.toList_some, Option.toList_none, true_and, and_true, if_true, if_false, and_self, true_or, or_true, or_false, false_or, false_and, and_false, not_true_eq_false, not_false_eq_true, forall_const, reduceCtorEq, implies_true, List.contains_cons, List.contains_nil, Bool.or_false, Bool.false_or, Bool.or_true, Bool.true_or, Bool.and_true, Bool.true_and, Bool.and_false, Bool.false_and, Bool.not_true, Bool.not_false, BEq.rfl, Bool.false_eq_true, Bool.true_eq_false, eq_self, ↓reduceIte, Nat.reduceAdd, Nat.reduceEqDiff, Nat.reduceBEq, Nat.reduceLT, Nat.reduceLeDiff, Nat.reduceSub, Nat.reduceMul, Nat.reduceBNe, List.append_nil, Nat.zero_le, Nat.zero_add, Nat.zero_ne_one, Nat.one_ne_zero, false_implies, true_implies, not_false_eq_true, ne_eq, upd_e, updL_e, bI_zo, nI0z, nI1o, nI1z, nI0o, nI0q, nI1q, nm1_lt, nm1_ge, ax_aload_n tX9_init_200, ax_bipush tX9_init_201, ax_newarray tX9_init_203, ax_putR tX9_init_205, ax_putN tX9_init_205]
  try simp (disch := omega) only [z0, o1, nI_add, pk_mul, nI_ltI, nI_leI, nI_eq, nI_clamp, vpn, pk_sub, Nat.add_sub_cancel, bI_0, bI_1, eq_self, true_or, or_true, or_false, false_or, true_and, and_true, false_and, and_false, and_self, or_self, forall_const, not_true_eq_false, not_false_eq_true, false_implies, implies_true, true_implies, ↓reduceIte, if_true, if_false, Nat.not_lt_zero, Nat.zero_le, Nat.le_refl, Nat.lt_irrefl, ne_eq, reduceCtorEq, Bool.false_eq_true]
  repeat (refine ⟨by omega, ?_⟩)
  intro y hy
  have nu : x ≠ y := fun q => by rw [q] at ku; omega
  have km : hK (nA h 112 y 40) x = 11 := by rw [hK_nA, va_up_eq, if_neg nu]; exact ku
  refine ⟨km, ?_⟩
  exact hq y _ (i.step (NEWF_A hy) hy hk (ra_new rfl rfl (by omega)) (by decide))
set_option maxRecDepth 100000 in
set_option maxHeartbeats 1600000 in
theorem ri_208 (i : RIN h0 x h ks xa sc) (hk : ¬ 30 ∈ ks) (hq : ∀ y h', RIN h0 x h' (30 :: ks) (va_up xa 30 y) sc → gG B mX9_init (d + 1) c n 216 [(0, .ref x)] [] h' Q) : gG B mX9_init (d + 1) (c + 1) (n + 40) 208 [(0, .ref x)] [] h Q := by
  have ku := i.1
  refine gAx (cut := [(216, [0])]) okX9_init 20 ?_
  simp only [axC_nil, axC_hit, axC_def, cutAt, lvLive, Option.isSome_none, Option.isSome_some, catS, lvGet, lvIns, lvSet1, lvSet2, gLit_0, gLit_1, lv_args, fv0, fv1, fv2, fv3, isI_s, isL_s, isRf_s, isRf_n, gtI_s, gtL_s, gtV_s, gFilter_nil, gFilter_cons, gL1, gL2, gL3, gL4, gL5, va_rf_s, va_rf_n, hK_sI, hK_sR, hK_sA, hK_sJ, hK_sO, hI_sI, hI_sR, hI_sA, hI_sJ, hI_sO, hR_sI, hR_sR, hR_sA, hR_sJ, hR_sO, hN_sI, hN_sR, hN_sA, hN_sJ, hN_sO, hA_sI, hA_sR, hA_sA, hA_sJ, hA_sO, hJ_sI, hJ_sR, hJ_sA, hJ_sJ, hJ_sO, hO_sI, hO_sR, hO_sA, hO_sJ, hO_sO, up3_eq, up2_eq, List.map_cons, List.map_nil, List.sum_cons, List.sum_nil, List.nil_append, List.cons_append, Option.toList_some, Option.toList_none, true_and, and_true, if_true, if_false, and_self, true_or, or_true, or_false, false_or, false_and, and_false, not_true_eq_false, not_false_eq_true, forall_const, reduceCtorEq, implies_true, List.contains_cons, List.contains_nil, Bool.or_false, Bool.false_or, Bool.or_true, Bool.true_or, Bool.and_true, Bool.true_and, Bool.and_false, Bool.false_and, Bool.not_true, Bool.not_false, BEq.rfl, Bool.false_eq_true, Bool.true_eq_false, eq_self, ↓reduceIte, Nat.reduceAdd, Nat.reduceEqDiff, Nat.reduceBEq, Nat.reduceLT, Nat.reduceLeDiff, Nat.reduceSub, Nat.reduceMul, Nat.reduceBNe, List.append_nil, Nat.zero_le, Nat.zero_add, Nat.zero_ne_one, Nat.one_ne_zero, false_implies, true_implies, not_false_eq_true, ne_eq, upd_e, updL_e, bI_zo, nI0z, nI1o, nI1z, nI0o, nI0q, nI1q, nm1_lt, nm1_ge, ax_aload_n tX9_init_208, ax_bipush tX9_init_209, ax_newarray tX9_init_211, ax_putR tX9_init_213, ax_putN tX9_init_213]
  try simp (disch := omega) only [z0, o1, nI_add, pk_mul, nI_ltI, nI_leI, nI_eq, nI_clamp, vpn, pk_sub, Nat.add_sub_cancel, bI_0, bI_1, eq_self, true_or, or_true, or_false, false_or, true_and, and_true, false_and, and_false, and_self, or_self, forall_const, not_true_eq_false, not_false_eq_true, false_implies, implies_true, true_implies, ↓reduceIte, if_true, if_false, Nat.not_lt_zero, Nat.zero_le, Nat.le_refl, Nat.lt_irrefl, ne_eq, reduceCtorEq, Bool.false_eq_true]
  repeat (refine ⟨by omega, ?_⟩)
  intro y hy
  have nu : x ≠ y := fun q => by rw [q] at ku; omega
  have km : hK (nA h 112 y 40) x = 11 := by rw [hK_nA, va_up_eq, if_neg nu]; exact ku
  refine ⟨km, ?_⟩
  exact hq y _ (i.step (NEWF_A hy) hy hk (ra_new rfl rfl (by omega)) (by decide))
set_option maxRecDepth 100000 in
set_option maxHeartbeats 1600000 in
theorem ri_216 (i : RIN h0 x h ks xa sc) (hk : ¬ 32 ∈ ks) (hq : ∀ y h', RIN h0 x h' (32 :: ks) (va_up xa 32 y) sc → gG B mX9_init (d + 1) c n 224 [(0, .ref x)] [] h' Q) : gG B mX9_init (d + 1) (c + 1) (n + 120) 216 [(0, .ref x)] [] h Q := by
  have ku := i.1
  refine gAx (cut := [(224, [0])]) okX9_init 20 ?_
  simp only [axC_nil, axC_hit, axC_def, cutAt, lvLive, Option.isSome_none, Option.isSome_some, catS, lvGet, lvIns, lvSet1, lvSet2, gLit_0, gLit_1, lv_args, fv0, fv1, fv2, fv3, isI_s, isL_s, isRf_s, isRf_n, gtI_s, gtL_s, gtV_s, gFilter_nil, gFilter_cons, gL1, gL2, gL3, gL4, gL5, va_rf_s, va_rf_n, hK_sI, hK_sR, hK_sA, hK_sJ, hK_sO, hI_sI, hI_sR, hI_sA, hI_sJ, hI_sO, hR_sI, hR_sR, hR_sA, hR_sJ, hR_sO, hN_sI, hN_sR, hN_sA, hN_sJ, hN_sO, hA_sI, hA_sR, hA_sA, hA_sJ, hA_sO, hJ_sI, hJ_sR, hJ_sA, hJ_sJ, hJ_sO, hO_sI, hO_sR, hO_sA, hO_sJ, hO_sO, up3_eq, up2_eq, List.map_cons, List.map_nil, List.sum_cons, List.sum_nil, List.nil_append, List.cons_append, Option.toList_some, Option.toList_none, true_and, and_true, if_true, if_false, and_self, true_or, or_true, or_false, false_or, false_and, and_false, not_true_eq_false, not_false_eq_true, forall_const, reduceCtorEq, implies_true, List.contains_cons, List.contains_nil, Bool.or_false, Bool.false_or, Bool.or_true, Bool.true_or, Bool.and_true, Bool.true_and, Bool.and_false, Bool.false_and, Bool.not_true, Bool.not_false, BEq.rfl, Bool.false_eq_true, Bool.true_eq_false, eq_self, ↓reduceIte, Nat.reduceAdd, Nat.reduceEqDiff, Nat.reduceBEq, Nat.reduceLT, Nat.reduceLeDiff, Nat.reduceSub, Nat.reduceMul, Nat.reduceBNe, List.append_nil, Nat.zero_le, Nat.zero_add, Nat.zero_ne_one, Nat.one_ne_zero, false_implies, true_implies, not_false_eq_true, ne_eq, upd_e, updL_e, bI_zo, nI0z, nI1o, nI1z, nI0o, nI0q, nI1q, nm1_lt, nm1_ge, ax_aload_n tX9_init_216, ax_bipush tX9_init_217, ax_newarray tX9_init_219, ax_putR tX9_init_221, ax_putN tX9_init_221]
  try simp (disch := omega) only [z0, o1, nI_add, pk_mul, nI_ltI, nI_leI, nI_eq, nI_clamp, vpn, pk_sub, Nat.add_sub_cancel, bI_0, bI_1, eq_self, true_or, or_true, or_false, false_or, true_and, and_true, false_and, and_false, and_self, or_self, forall_const, not_true_eq_false, not_false_eq_true, false_implies, implies_true, true_implies, ↓reduceIte, if_true, if_false, Nat.not_lt_zero, Nat.zero_le, Nat.le_refl, Nat.lt_irrefl, ne_eq, reduceCtorEq, Bool.false_eq_true]
  repeat (refine ⟨by omega, ?_⟩)
  intro y hy
  have nu : x ≠ y := fun q => by rw [q] at ku; omega
  have km : hK (nA h 112 y 120) x = 11 := by rw [hK_nA, va_up_eq, if_neg nu]; exact ku
  refine ⟨km, ?_⟩
  exact hq y _ (i.step (NEWF_A hy) hy hk (ra_new rfl rfl (by omega)) (by decide))
set_option maxRecDepth 100000 in
set_option maxHeartbeats 1600000 in
theorem ri_224 (i : RIN h0 x h ks xa sc) (hk : ¬ 33 ∈ ks) (hq : ∀ y h', RIN h0 x h' (33 :: ks) (va_up xa 33 y) sc → gG B mX9_init (d + 1) c n 232 [(0, .ref x)] [] h' Q) : gG B mX9_init (d + 1) (c + 1) (n + 120) 224 [(0, .ref x)] [] h Q := by
  have ku := i.1
  refine gAx (cut := [(232, [0])]) okX9_init 20 ?_
  simp only [axC_nil, axC_hit, axC_def, cutAt, lvLive, Option.isSome_none, Option.isSome_some, catS, lvGet, lvIns, lvSet1, lvSet2, gLit_0, gLit_1, lv_args, fv0, fv1, fv2, fv3, isI_s, isL_s, isRf_s, isRf_n, gtI_s, gtL_s, gtV_s, gFilter_nil, gFilter_cons, gL1, gL2, gL3, gL4, gL5, va_rf_s, va_rf_n, hK_sI, hK_sR, hK_sA, hK_sJ, hK_sO, hI_sI, hI_sR, hI_sA, hI_sJ, hI_sO, hR_sI, hR_sR, hR_sA, hR_sJ, hR_sO, hN_sI, hN_sR, hN_sA, hN_sJ, hN_sO, hA_sI, hA_sR, hA_sA, hA_sJ, hA_sO, hJ_sI, hJ_sR, hJ_sA, hJ_sJ, hJ_sO, hO_sI, hO_sR, hO_sA, hO_sJ, hO_sO, up3_eq, up2_eq, List.map_cons, List.map_nil, List.sum_cons, List.sum_nil, List.nil_append, List.cons_append, Option.toList_some, Option.toList_none, true_and, and_true, if_true, if_false, and_self, true_or, or_true, or_false, false_or, false_and, and_false, not_true_eq_false, not_false_eq_true, forall_const, reduceCtorEq, implies_true, List.contains_cons, List.contains_nil, Bool.or_false, Bool.false_or, Bool.or_true, Bool.true_or, Bool.and_true, Bool.true_and, Bool.and_false, Bool.false_and, Bool.not_true, Bool.not_false, BEq.rfl, Bool.false_eq_true, Bool.true_eq_false, eq_self, ↓reduceIte, Nat.reduceAdd, Nat.reduceEqDiff, Nat.reduceBEq, Nat.reduceLT, Nat.reduceLeDiff, Nat.reduceSub, Nat.reduceMul, Nat.reduceBNe, List.append_nil, Nat.zero_le, Nat.zero_add, Nat.zero_ne_one, Nat.one_ne_zero, false_implies, true_implies, not_false_eq_true, ne_eq, upd_e, updL_e, bI_zo, nI0z, nI1o, nI1z, nI0o, nI0q, nI1q, nm1_lt, nm1_ge, ax_aload_n tX9_init_224, ax_bipush tX9_init_225, ax_newarray tX9_init_227, ax_putR tX9_init_229, ax_putN tX9_init_229]
  try simp (disch := omega) only [z0, o1, nI_add, pk_mul, nI_ltI, nI_leI, nI_eq, nI_clamp, vpn, pk_sub, Nat.add_sub_cancel, bI_0, bI_1, eq_self, true_or, or_true, or_false, false_or, true_and, and_true, false_and, and_false, and_self, or_self, forall_const, not_true_eq_false, not_false_eq_true, false_implies, implies_true, true_implies, ↓reduceIte, if_true, if_false, Nat.not_lt_zero, Nat.zero_le, Nat.le_refl, Nat.lt_irrefl, ne_eq, reduceCtorEq, Bool.false_eq_true]
  repeat (refine ⟨by omega, ?_⟩)
  intro y hy
  have nu : x ≠ y := fun q => by rw [q] at ku; omega
  have km : hK (nA h 112 y 120) x = 11 := by rw [hK_nA, va_up_eq, if_neg nu]; exact ku
  refine ⟨km, ?_⟩
  exact hq y _ (i.step (NEWF_A hy) hy hk (ra_new rfl rfl (by omega)) (by decide))
set_option maxRecDepth 100000 in
set_option maxHeartbeats 1600000 in
theorem ri_232 (i : RIN h0 x h ks xa sc) (hk : ¬ 34 ∈ ks) (hq : ∀ y h', RIN h0 x h' (34 :: ks) (va_up xa 34 y) sc → gG B mX9_init (d + 1) c n 240 [(0, .ref x)] [] h' Q) : gG B mX9_init (d + 1) (c + 1) (n + 120) 232 [(0, .ref x)] [] h Q := by
  have ku := i.1
  refine gAx (cut := [(240, [0])]) okX9_init 20 ?_
  simp only [axC_nil, axC_hit, axC_def, cutAt, lvLive, Option.isSome_none, Option.isSome_some, catS, lvGet, lvIns, lvSet1, lvSet2, gLit_0, gLit_1, lv_args, fv0, fv1, fv2, fv3, isI_s, isL_s, isRf_s, isRf_n, gtI_s, gtL_s, gtV_s, gFilter_nil, gFilter_cons, gL1, gL2, gL3, gL4, gL5, va_rf_s, va_rf_n, hK_sI, hK_sR, hK_sA, hK_sJ, hK_sO, hI_sI, hI_sR, hI_sA, hI_sJ, hI_sO, hR_sI, hR_sR, hR_sA, hR_sJ, hR_sO, hN_sI, hN_sR, hN_sA, hN_sJ, hN_sO, hA_sI, hA_sR, hA_sA, hA_sJ, hA_sO, hJ_sI, hJ_sR, hJ_sA, hJ_sJ, hJ_sO, hO_sI, hO_sR, hO_sA, hO_sJ, hO_sO, up3_eq, up2_eq, List.map_cons, List.map_nil, List.sum_cons, List.sum_nil, List.nil_append, List.cons_append, Option.toList_some, Option.toList_none, true_and, and_true, if_true, if_false, and_self, true_or, or_true, or_false, false_or, false_and, and_false, not_true_eq_false, not_false_eq_true, forall_const, reduceCtorEq, implies_true, List.contains_cons, List.contains_nil, Bool.or_false, Bool.false_or, Bool.or_true, Bool.true_or, Bool.and_true, Bool.true_and, Bool.and_false, Bool.false_and, Bool.not_true, Bool.not_false, BEq.rfl, Bool.false_eq_true, Bool.true_eq_false, eq_self, ↓reduceIte, Nat.reduceAdd, Nat.reduceEqDiff, Nat.reduceBEq, Nat.reduceLT, Nat.reduceLeDiff, Nat.reduceSub, Nat.reduceMul, Nat.reduceBNe, List.append_nil, Nat.zero_le, Nat.zero_add, Nat.zero_ne_one, Nat.one_ne_zero, false_implies, true_implies, not_false_eq_true, ne_eq, upd_e, updL_e, bI_zo, nI0z, nI1o, nI1z, nI0o, nI0q, nI1q, nm1_lt, nm1_ge, ax_aload_n tX9_init_232, ax_bipush tX9_init_233, ax_newarray tX9_init_235, ax_putR tX9_init_237, ax_putN tX9_init_237]
  try simp (disch := omega) only [z0, o1, nI_add, pk_mul, nI_ltI, nI_leI, nI_eq, nI_clamp, vpn, pk_sub, Nat.add_sub_cancel, bI_0, bI_1, eq_self, true_or, or_true, or_false, false_or, true_and, and_true, false_and, and_false, and_self, or_self, forall_const, not_true_eq_false, not_false_eq_true, false_implies, implies_true, true_implies, ↓reduceIte, if_true, if_false, Nat.not_lt_zero, Nat.zero_le, Nat.le_refl, Nat.lt_irrefl, ne_eq, reduceCtorEq, Bool.false_eq_true]
  repeat (refine ⟨by omega, ?_⟩)
  intro y hy
  have nu : x ≠ y := fun q => by rw [q] at ku; omega
  have km : hK (nA h 112 y 120) x = 11 := by rw [hK_nA, va_up_eq, if_neg nu]; exact ku
  refine ⟨km, ?_⟩
  exact hq y _ (i.step (NEWF_A hy) hy hk (ra_new rfl rfl (by omega)) (by decide))
set_option maxRecDepth 100000 in
set_option maxHeartbeats 1600000 in
theorem ri_240 (i : RIN h0 x h ks xa sc) (hk : ¬ 35 ∈ ks) (hq : ∀ y h', RIN h0 x h' (35 :: ks) (va_up xa 35 y) sc → gG B mX9_init (d + 1) c n 249 [(0, .ref x)] [] h' Q) : gG B mX9_init (d + 1) (c + 1) (n + 1440) 240 [(0, .ref x)] [] h Q := by
  have ku := i.1
  refine gAx (cut := [(249, [0])]) okX9_init 20 ?_
  simp only [axC_nil, axC_hit, axC_def, cutAt, lvLive, Option.isSome_none, Option.isSome_some, catS, lvGet, lvIns, lvSet1, lvSet2, gLit_0, gLit_1, lv_args, fv0, fv1, fv2, fv3, isI_s, isL_s, isRf_s, isRf_n, gtI_s, gtL_s, gtV_s, gFilter_nil, gFilter_cons, gL1, gL2, gL3, gL4, gL5, va_rf_s, va_rf_n, hK_sI, hK_sR, hK_sA, hK_sJ, hK_sO, hI_sI, hI_sR, hI_sA, hI_sJ, hI_sO, hR_sI, hR_sR, hR_sA, hR_sJ, hR_sO, hN_sI, hN_sR, hN_sA, hN_sJ, hN_sO, hA_sI, hA_sR, hA_sA, hA_sJ, hA_sO, hJ_sI, hJ_sR, hJ_sA, hJ_sJ, hJ_sO, hO_sI, hO_sR, hO_sA, hO_sJ, hO_sO, up3_eq, up2_eq, List.map_cons, List.map_nil, List.sum_cons, List.sum_nil, List.nil_append, List.cons_append, Option.toList_some, Option.toList_none, true_and, and_true, if_true, if_false, and_self, true_or, or_true, or_false, false_or, false_and, and_false, not_true_eq_false, not_false_eq_true, forall_const, reduceCtorEq, implies_true, List.contains_cons, List.contains_nil, Bool.or_false, Bool.false_or, Bool.or_true, Bool.true_or, Bool.and_true, Bool.true_and, Bool.and_false, Bool.false_and, Bool.not_true, Bool.not_false, BEq.rfl, Bool.false_eq_true, Bool.true_eq_false, eq_self, ↓reduceIte, Nat.reduceAdd, Nat.reduceEqDiff, Nat.reduceBEq, Nat.reduceLT, Nat.reduceLeDiff, Nat.reduceSub, Nat.reduceMul, Nat.reduceBNe, List.append_nil, Nat.zero_le, Nat.zero_add, Nat.zero_ne_one, Nat.one_ne_zero, false_implies, true_implies, not_false_eq_true, ne_eq, upd_e, updL_e, bI_zo, nI0z, nI1o, nI1z, nI0o, nI0q, nI1q, nm1_lt, nm1_ge, ax_aload_n tX9_init_240, ax_sipush tX9_init_241, ax_newarray tX9_init_244, ax_putR tX9_init_246, ax_putN tX9_init_246]
  try simp (disch := omega) only [z0, o1, nI_add, pk_mul, nI_ltI, nI_leI, nI_eq, nI_clamp, vpn, pk_sub, Nat.add_sub_cancel, bI_0, bI_1, eq_self, true_or, or_true, or_false, false_or, true_and, and_true, false_and, and_false, and_self, or_self, forall_const, not_true_eq_false, not_false_eq_true, false_implies, implies_true, true_implies, ↓reduceIte, if_true, if_false, Nat.not_lt_zero, Nat.zero_le, Nat.le_refl, Nat.lt_irrefl, ne_eq, reduceCtorEq, Bool.false_eq_true]
  repeat (refine ⟨by omega, ?_⟩)
  intro y hy
  have nu : x ≠ y := fun q => by rw [q] at ku; omega
  have km : hK (nA h 112 y 1440) x = 11 := by rw [hK_nA, va_up_eq, if_neg nu]; exact ku
  refine ⟨km, ?_⟩
  exact hq y _ (i.step (NEWF_A hy) hy hk (ra_new rfl rfl (by omega)) (by decide))
set_option maxRecDepth 100000 in
set_option maxHeartbeats 1600000 in
theorem ri_249 (i : RIN h0 x h ks xa sc) (hk : ¬ 37 ∈ ks) (hq : ∀ y h', RIN h0 x h' (37 :: ks) (va_up xa 37 y) sc → gG B mX9_init (d + 1) c n 257 [(0, .ref x)] [] h' Q) : gG B mX9_init (d + 1) (c + 1) (n + 120) 249 [(0, .ref x)] [] h Q := by
  have ku := i.1
  refine gAx (cut := [(257, [0])]) okX9_init 20 ?_
  simp only [axC_nil, axC_hit, axC_def, cutAt, lvLive, Option.isSome_none, Option.isSome_some, catS, lvGet, lvIns, lvSet1, lvSet2, gLit_0, gLit_1, lv_args, fv0, fv1, fv2, fv3, isI_s, isL_s, isRf_s, isRf_n, gtI_s, gtL_s, gtV_s, gFilter_nil, gFilter_cons, gL1, gL2, gL3, gL4, gL5, va_rf_s, va_rf_n, hK_sI, hK_sR, hK_sA, hK_sJ, hK_sO, hI_sI, hI_sR, hI_sA, hI_sJ, hI_sO, hR_sI, hR_sR, hR_sA, hR_sJ, hR_sO, hN_sI, hN_sR, hN_sA, hN_sJ, hN_sO, hA_sI, hA_sR, hA_sA, hA_sJ, hA_sO, hJ_sI, hJ_sR, hJ_sA, hJ_sJ, hJ_sO, hO_sI, hO_sR, hO_sA, hO_sJ, hO_sO, up3_eq, up2_eq, List.map_cons, List.map_nil, List.sum_cons, List.sum_nil, List.nil_append, List.cons_append, Option.toList_some, Option.toList_none, true_and, and_true, if_true, if_false, and_self, true_or, or_true, or_false, false_or, false_and, and_false, not_true_eq_false, not_false_eq_true, forall_const, reduceCtorEq, implies_true, List.contains_cons, List.contains_nil, Bool.or_false, Bool.false_or, Bool.or_true, Bool.true_or, Bool.and_true, Bool.true_and, Bool.and_false, Bool.false_and, Bool.not_true, Bool.not_false, BEq.rfl, Bool.false_eq_true, Bool.true_eq_false, eq_self, ↓reduceIte, Nat.reduceAdd, Nat.reduceEqDiff, Nat.reduceBEq, Nat.reduceLT, Nat.reduceLeDiff, Nat.reduceSub, Nat.reduceMul, Nat.reduceBNe, List.append_nil, Nat.zero_le, Nat.zero_add, Nat.zero_ne_one, Nat.one_ne_zero, false_implies, true_implies, not_false_eq_true, ne_eq, upd_e, updL_e, bI_zo, nI0z, nI1o, nI1z, nI0o, nI0q, nI1q, nm1_lt, nm1_ge, ax_aload_n tX9_init_249, ax_bipush tX9_init_250, ax_newarray tX9_init_252, ax_putR tX9_init_254, ax_putN tX9_init_254]
  try simp (disch := omega) only [z0, o1, nI_add, pk_mul, nI_ltI, nI_leI, nI_eq, nI_clamp, vpn, pk_sub, Nat.add_sub_cancel, bI_0, bI_1, eq_self, true_or, or_true, or_false, false_or, true_and, and_true, false_and, and_false, and_self, or_self, forall_const, not_true_eq_false, not_false_eq_true, false_implies, implies_true, true_implies, ↓reduceIte, if_true, if_false, Nat.not_lt_zero, Nat.zero_le, Nat.le_refl, Nat.lt_irrefl, ne_eq, reduceCtorEq, Bool.false_eq_true]
  repeat (refine ⟨by omega, ?_⟩)
  intro y hy
  have nu : x ≠ y := fun q => by rw [q] at ku; omega
  have km : hK (nA h 112 y 120) x = 11 := by rw [hK_nA, va_up_eq, if_neg nu]; exact ku
  refine ⟨km, ?_⟩
  exact hq y _ (i.step (NEWF_A hy) hy hk (ra_new rfl rfl (by omega)) (by decide))
set_option maxRecDepth 100000 in
set_option maxHeartbeats 1600000 in
theorem ri_257 (i : RIN h0 x h ks xa sc) (hk : ¬ 38 ∈ ks) (hq : ∀ y h', RIN h0 x h' (38 :: ks) (va_up xa 38 y) sc → gG B mX9_init (d + 1) c n 265 [(0, .ref x)] [] h' Q) : gG B mX9_init (d + 1) (c + 1) (n + 120) 257 [(0, .ref x)] [] h Q := by
  have ku := i.1
  refine gAx (cut := [(265, [0])]) okX9_init 20 ?_
  simp only [axC_nil, axC_hit, axC_def, cutAt, lvLive, Option.isSome_none, Option.isSome_some, catS, lvGet, lvIns, lvSet1, lvSet2, gLit_0, gLit_1, lv_args, fv0, fv1, fv2, fv3, isI_s, isL_s, isRf_s, isRf_n, gtI_s, gtL_s, gtV_s, gFilter_nil, gFilter_cons, gL1, gL2, gL3, gL4, gL5, va_rf_s, va_rf_n, hK_sI, hK_sR, hK_sA, hK_sJ, hK_sO, hI_sI, hI_sR, hI_sA, hI_sJ, hI_sO, hR_sI, hR_sR, hR_sA, hR_sJ, hR_sO, hN_sI, hN_sR, hN_sA, hN_sJ, hN_sO, hA_sI, hA_sR, hA_sA, hA_sJ, hA_sO, hJ_sI, hJ_sR, hJ_sA, hJ_sJ, hJ_sO, hO_sI, hO_sR, hO_sA, hO_sJ, hO_sO, up3_eq, up2_eq, List.map_cons, List.map_nil, List.sum_cons, List.sum_nil, List.nil_append, List.cons_append, Option.toList_some, Option.toList_none, true_and, and_true, if_true, if_false, and_self, true_or, or_true, or_false, false_or, false_and, and_false, not_true_eq_false, not_false_eq_true, forall_const, reduceCtorEq, implies_true, List.contains_cons, List.contains_nil, Bool.or_false, Bool.false_or, Bool.or_true, Bool.true_or, Bool.and_true, Bool.true_and, Bool.and_false, Bool.false_and, Bool.not_true, Bool.not_false, BEq.rfl, Bool.false_eq_true, Bool.true_eq_false, eq_self, ↓reduceIte, Nat.reduceAdd, Nat.reduceEqDiff, Nat.reduceBEq, Nat.reduceLT, Nat.reduceLeDiff, Nat.reduceSub, Nat.reduceMul, Nat.reduceBNe, List.append_nil, Nat.zero_le, Nat.zero_add, Nat.zero_ne_one, Nat.one_ne_zero, false_implies, true_implies, not_false_eq_true, ne_eq, upd_e, updL_e, bI_zo, nI0z, nI1o, nI1z, nI0o, nI0q, nI1q, nm1_lt, nm1_ge, ax_aload_n tX9_init_257, ax_bipush tX9_init_258, ax_newarray tX9_init_260, ax_putR tX9_init_262, ax_putN tX9_init_262]
  try simp (disch := omega) only [z0, o1, nI_add, pk_mul, nI_ltI, nI_leI, nI_eq, nI_clamp, vpn, pk_sub, Nat.add_sub_cancel, bI_0, bI_1, eq_self, true_or, or_true, or_false, false_or, true_and, and_true, false_and, and_false, and_self, or_self, forall_const, not_true_eq_false, not_false_eq_true, false_implies, implies_true, true_implies, ↓reduceIte, if_true, if_false, Nat.not_lt_zero, Nat.zero_le, Nat.le_refl, Nat.lt_irrefl, ne_eq, reduceCtorEq, Bool.false_eq_true]
  repeat (refine ⟨by omega, ?_⟩)
  intro y hy
  have nu : x ≠ y := fun q => by rw [q] at ku; omega
  have km : hK (nA h 114 y 120) x = 11 := by rw [hK_nA, va_up_eq, if_neg nu]; exact ku
  refine ⟨km, ?_⟩
  exact hq y _ (i.step (NEWF_A hy) hy hk (ra_new rfl rfl (by omega)) (by decide))
set_option maxRecDepth 100000 in
set_option maxHeartbeats 1600000 in
theorem ri_265 (i : RIN h0 x h ks xa sc) (hk : ¬ 39 ∈ ks) (hq : ∀ y h', RIN h0 x h' (39 :: ks) (va_up xa 39 y) sc → gG B mX9_init (d + 1) c n 273 [(0, .ref x)] [] h' Q) : gG B mX9_init (d + 1) (c + 1) (n + 120) 265 [(0, .ref x)] [] h Q := by
  have ku := i.1
  refine gAx (cut := [(273, [0])]) okX9_init 20 ?_
  simp only [axC_nil, axC_hit, axC_def, cutAt, lvLive, Option.isSome_none, Option.isSome_some, catS, lvGet, lvIns, lvSet1, lvSet2, gLit_0, gLit_1, lv_args, fv0, fv1, fv2, fv3, isI_s, isL_s, isRf_s, isRf_n, gtI_s, gtL_s, gtV_s, gFilter_nil, gFilter_cons, gL1, gL2, gL3, gL4, gL5, va_rf_s, va_rf_n, hK_sI, hK_sR, hK_sA, hK_sJ, hK_sO, hI_sI, hI_sR, hI_sA, hI_sJ, hI_sO, hR_sI, hR_sR, hR_sA, hR_sJ, hR_sO, hN_sI, hN_sR, hN_sA, hN_sJ, hN_sO, hA_sI, hA_sR, hA_sA, hA_sJ, hA_sO, hJ_sI, hJ_sR, hJ_sA, hJ_sJ, hJ_sO, hO_sI, hO_sR, hO_sA, hO_sJ, hO_sO, up3_eq, up2_eq, List.map_cons, List.map_nil, List.sum_cons, List.sum_nil, List.nil_append, List.cons_append, Option.toList_some, Option.toList_none, true_and, and_true, if_true, if_false, and_self, true_or, or_true, or_false, false_or, false_and, and_false, not_true_eq_false, not_false_eq_true, forall_const, reduceCtorEq, implies_true, List.contains_cons, List.contains_nil, Bool.or_false, Bool.false_or, Bool.or_true, Bool.true_or, Bool.and_true, Bool.true_and, Bool.and_false, Bool.false_and, Bool.not_true, Bool.not_false, BEq.rfl, Bool.false_eq_true, Bool.true_eq_false, eq_self, ↓reduceIte, Nat.reduceAdd, Nat.reduceEqDiff, Nat.reduceBEq, Nat.reduceLT, Nat.reduceLeDiff, Nat.reduceSub, Nat.reduceMul, Nat.reduceBNe, List.append_nil, Nat.zero_le, Nat.zero_add, Nat.zero_ne_one, Nat.one_ne_zero, false_implies, true_implies, not_false_eq_true, ne_eq, upd_e, updL_e, bI_zo, nI0z, nI1o, nI1z, nI0o, nI0q, nI1q, nm1_lt, nm1_ge, ax_aload_n tX9_init_265, ax_bipush tX9_init_266, ax_newarray tX9_init_268, ax_putR tX9_init_270, ax_putN tX9_init_270]
  try simp (disch := omega) only [z0, o1, nI_add, pk_mul, nI_ltI, nI_leI, nI_eq, nI_clamp, vpn, pk_sub, Nat.add_sub_cancel, bI_0, bI_1, eq_self, true_or, or_true, or_false, false_or, true_and, and_true, false_and, and_false, and_self, or_self, forall_const, not_true_eq_false, not_false_eq_true, false_implies, implies_true, true_implies, ↓reduceIte, if_true, if_false, Nat.not_lt_zero, Nat.zero_le, Nat.le_refl, Nat.lt_irrefl, ne_eq, reduceCtorEq, Bool.false_eq_true]
  repeat (refine ⟨by omega, ?_⟩)
  intro y hy
  have nu : x ≠ y := fun q => by rw [q] at ku; omega
  have km : hK (nA h 112 y 120) x = 11 := by rw [hK_nA, va_up_eq, if_neg nu]; exact ku
  refine ⟨km, ?_⟩
  exact hq y _ (i.step (NEWF_A hy) hy hk (ra_new rfl rfl (by omega)) (by decide))
set_option maxRecDepth 100000 in
set_option maxHeartbeats 1600000 in
theorem ri_273 (i : RIN h0 x h ks xa sc) (hk : ¬ 40 ∈ ks) (hq : ∀ y h', RIN h0 x h' (40 :: ks) (va_up xa 40 y) sc → gG B mX9_init (d + 1) c n 282 [(0, .ref x)] [] h' Q) : gG B mX9_init (d + 1) (c + 1) (n + 480) 273 [(0, .ref x)] [] h Q := by
  have ku := i.1
  refine gAx (cut := [(282, [0])]) okX9_init 20 ?_
  simp only [axC_nil, axC_hit, axC_def, cutAt, lvLive, Option.isSome_none, Option.isSome_some, catS, lvGet, lvIns, lvSet1, lvSet2, gLit_0, gLit_1, lv_args, fv0, fv1, fv2, fv3, isI_s, isL_s, isRf_s, isRf_n, gtI_s, gtL_s, gtV_s, gFilter_nil, gFilter_cons, gL1, gL2, gL3, gL4, gL5, va_rf_s, va_rf_n, hK_sI, hK_sR, hK_sA, hK_sJ, hK_sO, hI_sI, hI_sR, hI_sA, hI_sJ, hI_sO, hR_sI, hR_sR, hR_sA, hR_sJ, hR_sO, hN_sI, hN_sR, hN_sA, hN_sJ, hN_sO, hA_sI, hA_sR, hA_sA, hA_sJ, hA_sO, hJ_sI, hJ_sR, hJ_sA, hJ_sJ, hJ_sO, hO_sI, hO_sR, hO_sA, hO_sJ, hO_sO, up3_eq, up2_eq, List.map_cons, List.map_nil, List.sum_cons, List.sum_nil, List.nil_append, List.cons_append, Option.toList_some, Option.toList_none, true_and, and_true, if_true, if_false, and_self, true_or, or_true, or_false, false_or, false_and, and_false, not_true_eq_false, not_false_eq_true, forall_const, reduceCtorEq, implies_true, List.contains_cons, List.contains_nil, Bool.or_false, Bool.false_or, Bool.or_true, Bool.true_or, Bool.and_true, Bool.true_and, Bool.and_false, Bool.false_and, Bool.not_true, Bool.not_false, BEq.rfl, Bool.false_eq_true, Bool.true_eq_false, eq_self, ↓reduceIte, Nat.reduceAdd, Nat.reduceEqDiff, Nat.reduceBEq, Nat.reduceLT, Nat.reduceLeDiff, Nat.reduceSub, Nat.reduceMul, Nat.reduceBNe, List.append_nil, Nat.zero_le, Nat.zero_add, Nat.zero_ne_one, Nat.one_ne_zero, false_implies, true_implies, not_false_eq_true, ne_eq, upd_e, updL_e, bI_zo, nI0z, nI1o, nI1z, nI0o, nI0q, nI1q, nm1_lt, nm1_ge, ax_aload_n tX9_init_273, ax_sipush tX9_init_274, ax_newarray tX9_init_277, ax_putR tX9_init_279, ax_putN tX9_init_279]
  try simp (disch := omega) only [z0, o1, nI_add, pk_mul, nI_ltI, nI_leI, nI_eq, nI_clamp, vpn, pk_sub, Nat.add_sub_cancel, bI_0, bI_1, eq_self, true_or, or_true, or_false, false_or, true_and, and_true, false_and, and_false, and_self, or_self, forall_const, not_true_eq_false, not_false_eq_true, false_implies, implies_true, true_implies, ↓reduceIte, if_true, if_false, Nat.not_lt_zero, Nat.zero_le, Nat.le_refl, Nat.lt_irrefl, ne_eq, reduceCtorEq, Bool.false_eq_true]
  repeat (refine ⟨by omega, ?_⟩)
  intro y hy
  have nu : x ≠ y := fun q => by rw [q] at ku; omega
  have km : hK (nA h 112 y 480) x = 11 := by rw [hK_nA, va_up_eq, if_neg nu]; exact ku
  refine ⟨km, ?_⟩
  exact hq y _ (i.step (NEWF_A hy) hy hk (ra_new rfl rfl (by omega)) (by decide))
set_option maxRecDepth 100000 in
set_option maxHeartbeats 1600000 in
theorem ri_282 (i : RIN h0 x h ks xa sc) (hk : ¬ 41 ∈ ks) (hq : ∀ y h', RIN h0 x h' (41 :: ks) (va_up xa 41 y) sc → gG B mX9_init (d + 1) c n 291 [(0, .ref x)] [] h' Q) : gG B mX9_init (d + 1) (c + 1) (n + 480) 282 [(0, .ref x)] [] h Q := by
  have ku := i.1
  refine gAx (cut := [(291, [0])]) okX9_init 20 ?_
  simp only [axC_nil, axC_hit, axC_def, cutAt, lvLive, Option.isSome_none, Option.isSome_some, catS, lvGet, lvIns, lvSet1, lvSet2, gLit_0, gLit_1, lv_args, fv0, fv1, fv2, fv3, isI_s, isL_s, isRf_s, isRf_n, gtI_s, gtL_s, gtV_s, gFilter_nil, gFilter_cons, gL1, gL2, gL3, gL4, gL5, va_rf_s, va_rf_n, hK_sI, hK_sR, hK_sA, hK_sJ, hK_sO, hI_sI, hI_sR, hI_sA, hI_sJ, hI_sO, hR_sI, hR_sR, hR_sA, hR_sJ, hR_sO, hN_sI, hN_sR, hN_sA, hN_sJ, hN_sO, hA_sI, hA_sR, hA_sA, hA_sJ, hA_sO, hJ_sI, hJ_sR, hJ_sA, hJ_sJ, hJ_sO, hO_sI, hO_sR, hO_sA, hO_sJ, hO_sO, up3_eq, up2_eq, List.map_cons, List.map_nil, List.sum_cons, List.sum_nil, List.nil_append, List.cons_append, Option.toList_some, Option.toList_none, true_and, and_true, if_true, if_false, and_self, true_or, or_true, or_false, false_or, false_and, and_false, not_true_eq_false, not_false_eq_true, forall_const, reduceCtorEq, implies_true, List.contains_cons, List.contains_nil, Bool.or_false, Bool.false_or, Bool.or_true, Bool.true_or, Bool.and_true, Bool.true_and, Bool.and_false, Bool.false_and, Bool.not_true, Bool.not_false, BEq.rfl, Bool.false_eq_true, Bool.true_eq_false, eq_self, ↓reduceIte, Nat.reduceAdd, Nat.reduceEqDiff, Nat.reduceBEq, Nat.reduceLT, Nat.reduceLeDiff, Nat.reduceSub, Nat.reduceMul, Nat.reduceBNe, List.append_nil, Nat.zero_le, Nat.zero_add, Nat.zero_ne_one, Nat.one_ne_zero, false_implies, true_implies, not_false_eq_true, ne_eq, upd_e, updL_e, bI_zo, nI0z, nI1o, nI1z, nI0o, nI0q, nI1q, nm1_lt, nm1_ge, ax_aload_n tX9_init_282, ax_sipush tX9_init_283, ax_newarray tX9_init_286, ax_putR tX9_init_288, ax_putN tX9_init_288]
  try simp (disch := omega) only [z0, o1, nI_add, pk_mul, nI_ltI, nI_leI, nI_eq, nI_clamp, vpn, pk_sub, Nat.add_sub_cancel, bI_0, bI_1, eq_self, true_or, or_true, or_false, false_or, true_and, and_true, false_and, and_false, and_self, or_self, forall_const, not_true_eq_false, not_false_eq_true, false_implies, implies_true, true_implies, ↓reduceIte, if_true, if_false, Nat.not_lt_zero, Nat.zero_le, Nat.le_refl, Nat.lt_irrefl, ne_eq, reduceCtorEq, Bool.false_eq_true]
  repeat (refine ⟨by omega, ?_⟩)
  intro y hy
  have nu : x ≠ y := fun q => by rw [q] at ku; omega
  have km : hK (nA h 112 y 480) x = 11 := by rw [hK_nA, va_up_eq, if_neg nu]; exact ku
  refine ⟨km, ?_⟩
  exact hq y _ (i.step (NEWF_A hy) hy hk (ra_new rfl rfl (by omega)) (by decide))
set_option maxRecDepth 100000 in
set_option maxHeartbeats 1600000 in
theorem ri_291 (i : RIN h0 x h ks xa sc) (hk : ¬ 42 ∈ ks) (hq : ∀ y h', RIN h0 x h' (42 :: ks) (va_up xa 42 y) sc → gG B mX9_init (d + 1) c n 300 [(0, .ref x)] [] h' Q) : gG B mX9_init (d + 1) (c + 1) (n + 480) 291 [(0, .ref x)] [] h Q := by
  have ku := i.1
  refine gAx (cut := [(300, [0])]) okX9_init 20 ?_
  simp only [axC_nil, axC_hit, axC_def, cutAt, lvLive, Option.isSome_none, Option.isSome_some, catS, lvGet, lvIns, lvSet1, lvSet2, gLit_0, gLit_1, lv_args, fv0, fv1, fv2, fv3, isI_s, isL_s, isRf_s, isRf_n, gtI_s, gtL_s, gtV_s, gFilter_nil, gFilter_cons, gL1, gL2, gL3, gL4, gL5, va_rf_s, va_rf_n, hK_sI, hK_sR, hK_sA, hK_sJ, hK_sO, hI_sI, hI_sR, hI_sA, hI_sJ, hI_sO, hR_sI, hR_sR, hR_sA, hR_sJ, hR_sO, hN_sI, hN_sR, hN_sA, hN_sJ, hN_sO, hA_sI, hA_sR, hA_sA, hA_sJ, hA_sO, hJ_sI, hJ_sR, hJ_sA, hJ_sJ, hJ_sO, hO_sI, hO_sR, hO_sA, hO_sJ, hO_sO, up3_eq, up2_eq, List.map_cons, List.map_nil, List.sum_cons, List.sum_nil, List.nil_append, List.cons_append, Option.toList_some, Option.toList_none, true_and, and_true, if_true, if_false, and_self, true_or, or_true, or_false, false_or, false_and, and_false, not_true_eq_false, not_false_eq_true, forall_const, reduceCtorEq, implies_true, List.contains_cons, List.contains_nil, Bool.or_false, Bool.false_or, Bool.or_true, Bool.true_or, Bool.and_true, Bool.true_and, Bool.and_false, Bool.false_and, Bool.not_true, Bool.not_false, BEq.rfl, Bool.false_eq_true, Bool.true_eq_false, eq_self, ↓reduceIte, Nat.reduceAdd, Nat.reduceEqDiff, Nat.reduceBEq, Nat.reduceLT, Nat.reduceLeDiff, Nat.reduceSub, Nat.reduceMul, Nat.reduceBNe, List.append_nil, Nat.zero_le, Nat.zero_add, Nat.zero_ne_one, Nat.one_ne_zero, false_implies, true_implies, not_false_eq_true, ne_eq, upd_e, updL_e, bI_zo, nI0z, nI1o, nI1z, nI0o, nI0q, nI1q, nm1_lt, nm1_ge, ax_aload_n tX9_init_291, ax_sipush tX9_init_292, ax_newarray tX9_init_295, ax_putR tX9_init_297, ax_putN tX9_init_297]
  try simp (disch := omega) only [z0, o1, nI_add, pk_mul, nI_ltI, nI_leI, nI_eq, nI_clamp, vpn, pk_sub, Nat.add_sub_cancel, bI_0, bI_1, eq_self, true_or, or_true, or_false, false_or, true_and, and_true, false_and, and_false, and_self, or_self, forall_const, not_true_eq_false, not_false_eq_true, false_implies, implies_true, true_implies, ↓reduceIte, if_true, if_false, Nat.not_lt_zero, Nat.zero_le, Nat.le_refl, Nat.lt_irrefl, ne_eq, reduceCtorEq, Bool.false_eq_true]
  repeat (refine ⟨by omega, ?_⟩)
  intro y hy
  have nu : x ≠ y := fun q => by rw [q] at ku; omega
  have km : hK (nA h 112 y 480) x = 11 := by rw [hK_nA, va_up_eq, if_neg nu]; exact ku
  refine ⟨km, ?_⟩
  exact hq y _ (i.step (NEWF_A hy) hy hk (ra_new rfl rfl (by omega)) (by decide))
set_option maxRecDepth 100000 in
set_option maxHeartbeats 1600000 in
theorem ri_300 (i : RIN h0 x h ks xa sc) (hk : ¬ 43 ∈ ks) (hq : ∀ y h', RIN h0 x h' (43 :: ks) (va_up xa 43 y) sc → gG B mX9_init (d + 1) c n 308 [(0, .ref x)] [] h' Q) : gG B mX9_init (d + 1) (c + 1) (n + 8) 300 [(0, .ref x)] [] h Q := by
  have ku := i.1
  refine gAx (cut := [(308, [0])]) okX9_init 20 ?_
  simp only [axC_nil, axC_hit, axC_def, cutAt, lvLive, Option.isSome_none, Option.isSome_some, catS, lvGet, lvIns, lvSet1, lvSet2, gLit_0, gLit_1, lv_args, fv0, fv1, fv2, fv3, isI_s, isL_s, isRf_s, isRf_n, gtI_s, gtL_s, gtV_s, gFilter_nil, gFilter_cons, gL1, gL2, gL3, gL4, gL5, va_rf_s, va_rf_n, hK_sI, hK_sR, hK_sA, hK_sJ, hK_sO, hI_sI, hI_sR, hI_sA, hI_sJ, hI_sO, hR_sI, hR_sR, hR_sA, hR_sJ, hR_sO, hN_sI, hN_sR, hN_sA, hN_sJ, hN_sO, hA_sI, hA_sR, hA_sA, hA_sJ, hA_sO, hJ_sI, hJ_sR, hJ_sA, hJ_sJ, hJ_sO, hO_sI, hO_sR, hO_sA, hO_sJ, hO_sO, up3_eq, up2_eq, List.map_cons, List.map_nil, List.sum_cons, List.sum_nil, List.nil_append, List.cons_append, Option.toList_some, Option.toList_none, true_and, and_true, if_true, if_false, and_self, true_or, or_true, or_false, false_or, false_and, and_false, not_true_eq_false, not_false_eq_true, forall_const, reduceCtorEq, implies_true, List.contains_cons, List.contains_nil, Bool.or_false, Bool.false_or, Bool.or_true, Bool.true_or, Bool.and_true, Bool.true_and, Bool.and_false, Bool.false_and, Bool.not_true, Bool.not_false, BEq.rfl, Bool.false_eq_true, Bool.true_eq_false, eq_self, ↓reduceIte, Nat.reduceAdd, Nat.reduceEqDiff, Nat.reduceBEq, Nat.reduceLT, Nat.reduceLeDiff, Nat.reduceSub, Nat.reduceMul, Nat.reduceBNe, List.append_nil, Nat.zero_le, Nat.zero_add, Nat.zero_ne_one, Nat.one_ne_zero, false_implies, true_implies, not_false_eq_true, ne_eq, upd_e, updL_e, bI_zo, nI0z, nI1o, nI1z, nI0o, nI0q, nI1q, nm1_lt, nm1_ge, ax_aload_n tX9_init_300, ax_bipush tX9_init_301, ax_newarray tX9_init_303, ax_putR tX9_init_305, ax_putN tX9_init_305]
  try simp (disch := omega) only [z0, o1, nI_add, pk_mul, nI_ltI, nI_leI, nI_eq, nI_clamp, vpn, pk_sub, Nat.add_sub_cancel, bI_0, bI_1, eq_self, true_or, or_true, or_false, false_or, true_and, and_true, false_and, and_false, and_self, or_self, forall_const, not_true_eq_false, not_false_eq_true, false_implies, implies_true, true_implies, ↓reduceIte, if_true, if_false, Nat.not_lt_zero, Nat.zero_le, Nat.le_refl, Nat.lt_irrefl, ne_eq, reduceCtorEq, Bool.false_eq_true]
  repeat (refine ⟨by omega, ?_⟩)
  intro y hy
  have nu : x ≠ y := fun q => by rw [q] at ku; omega
  have km : hK (nA h 114 y 8) x = 11 := by rw [hK_nA, va_up_eq, if_neg nu]; exact ku
  refine ⟨km, ?_⟩
  exact hq y _ (i.step (NEWF_A hy) hy hk (ra_new rfl rfl (by omega)) (by decide))
set_option maxRecDepth 100000 in
set_option maxHeartbeats 1600000 in
theorem ri_308 (i : RIN h0 x h ks xa sc) (hk : ¬ 45 ∈ ks) (hq : ∀ y h', RIN h0 x h' (45 :: ks) (va_up xa 45 y) sc → gG B mX9_init (d + 1) c n 316 [(0, .ref x)] [] h' Q) : gG B mX9_init (d + 1) (c + 1) (n + 12) 308 [(0, .ref x)] [] h Q := by
  have ku := i.1
  refine gAx (cut := [(316, [0])]) okX9_init 20 ?_
  simp only [axC_nil, axC_hit, axC_def, cutAt, lvLive, Option.isSome_none, Option.isSome_some, catS, lvGet, lvIns, lvSet1, lvSet2, gLit_0, gLit_1, lv_args, fv0, fv1, fv2, fv3, isI_s, isL_s, isRf_s, isRf_n, gtI_s, gtL_s, gtV_s, gFilter_nil, gFilter_cons, gL1, gL2, gL3, gL4, gL5, va_rf_s, va_rf_n, hK_sI, hK_sR, hK_sA, hK_sJ, hK_sO, hI_sI, hI_sR, hI_sA, hI_sJ, hI_sO, hR_sI, hR_sR, hR_sA, hR_sJ, hR_sO, hN_sI, hN_sR, hN_sA, hN_sJ, hN_sO, hA_sI, hA_sR, hA_sA, hA_sJ, hA_sO, hJ_sI, hJ_sR, hJ_sA, hJ_sJ, hJ_sO, hO_sI, hO_sR, hO_sA, hO_sJ, hO_sO, up3_eq, up2_eq, List.map_cons, List.map_nil, List.sum_cons, List.sum_nil, List.nil_append, List.cons_append, Option.toList_some, Option.toList_none, true_and, and_true, if_true, if_false, and_self, true_or, or_true, or_false, false_or, false_and, and_false, not_true_eq_false, not_false_eq_true, forall_const, reduceCtorEq, implies_true, List.contains_cons, List.contains_nil, Bool.or_false, Bool.false_or, Bool.or_true, Bool.true_or, Bool.and_true, Bool.true_and, Bool.and_false, Bool.false_and, Bool.not_true, Bool.not_false, BEq.rfl, Bool.false_eq_true, Bool.true_eq_false, eq_self, ↓reduceIte, Nat.reduceAdd, Nat.reduceEqDiff, Nat.reduceBEq, Nat.reduceLT, Nat.reduceLeDiff, Nat.reduceSub, Nat.reduceMul, Nat.reduceBNe, List.append_nil, Nat.zero_le, Nat.zero_add, Nat.zero_ne_one, Nat.one_ne_zero, false_implies, true_implies, not_false_eq_true, ne_eq, upd_e, updL_e, bI_zo, nI0z, nI1o, nI1z, nI0o, nI0q, nI1q, nm1_lt, nm1_ge, ax_aload_n tX9_init_308, ax_bipush tX9_init_309, ax_newarray tX9_init_311, ax_putR tX9_init_313, ax_putN tX9_init_313]
  try simp (disch := omega) only [z0, o1, nI_add, pk_mul, nI_ltI, nI_leI, nI_eq, nI_clamp, vpn, pk_sub, Nat.add_sub_cancel, bI_0, bI_1, eq_self, true_or, or_true, or_false, false_or, true_and, and_true, false_and, and_false, and_self, or_self, forall_const, not_true_eq_false, not_false_eq_true, false_implies, implies_true, true_implies, ↓reduceIte, if_true, if_false, Nat.not_lt_zero, Nat.zero_le, Nat.le_refl, Nat.lt_irrefl, ne_eq, reduceCtorEq, Bool.false_eq_true]
  repeat (refine ⟨by omega, ?_⟩)
  intro y hy
  have nu : x ≠ y := fun q => by rw [q] at ku; omega
  have km : hK (nA h 112 y 12) x = 11 := by rw [hK_nA, va_up_eq, if_neg nu]; exact ku
  refine ⟨km, ?_⟩
  exact hq y _ (i.step (NEWF_A hy) hy hk (ra_new rfl rfl (by omega)) (by decide))
set_option maxRecDepth 100000 in
set_option maxHeartbeats 1600000 in
theorem ri_316 (i : RIN h0 x h ks xa sc) (hk : ¬ 47 ∈ ks) (hq : ∀ y h', RIN h0 x h' (47 :: ks) (va_up xa 47 y) sc → gG B mX9_init (d + 1) c n 324 [(0, .ref x)] [] h' Q) : gG B mX9_init (d + 1) (c + 1) (n + 20) 316 [(0, .ref x)] [] h Q := by
  have ku := i.1
  refine gAx (cut := [(324, [0])]) okX9_init 20 ?_
  simp only [axC_nil, axC_hit, axC_def, cutAt, lvLive, Option.isSome_none, Option.isSome_some, catS, lvGet, lvIns, lvSet1, lvSet2, gLit_0, gLit_1, lv_args, fv0, fv1, fv2, fv3, isI_s, isL_s, isRf_s, isRf_n, gtI_s, gtL_s, gtV_s, gFilter_nil, gFilter_cons, gL1, gL2, gL3, gL4, gL5, va_rf_s, va_rf_n, hK_sI, hK_sR, hK_sA, hK_sJ, hK_sO, hI_sI, hI_sR, hI_sA, hI_sJ, hI_sO, hR_sI, hR_sR, hR_sA, hR_sJ, hR_sO, hN_sI, hN_sR, hN_sA, hN_sJ, hN_sO, hA_sI, hA_sR, hA_sA, hA_sJ, hA_sO, hJ_sI, hJ_sR, hJ_sA, hJ_sJ, hJ_sO, hO_sI, hO_sR, hO_sA, hO_sJ, hO_sO, up3_eq, up2_eq, List.map_cons, List.map_nil, List.sum_cons, List.sum_nil, List.nil_append, List.cons_append, Option.toList_some, Option.toList_none, true_and, and_true, if_true, if_false, and_self, true_or, or_true, or_false, false_or, false_and, and_false, not_true_eq_false, not_false_eq_true, forall_const, reduceCtorEq, implies_true, List.contains_cons, List.contains_nil, Bool.or_false, Bool.false_or, Bool.or_true, Bool.true_or, Bool.and_true, Bool.true_and, Bool.and_false, Bool.false_and, Bool.not_true, Bool.not_false, BEq.rfl, Bool.false_eq_true, Bool.true_eq_false, eq_self, ↓reduceIte, Nat.reduceAdd, Nat.reduceEqDiff, Nat.reduceBEq, Nat.reduceLT, Nat.reduceLeDiff, Nat.reduceSub, Nat.reduceMul, Nat.reduceBNe, List.append_nil, Nat.zero_le, Nat.zero_add, Nat.zero_ne_one, Nat.one_ne_zero, false_implies, true_implies, not_false_eq_true, ne_eq, upd_e, updL_e, bI_zo, nI0z, nI1o, nI1z, nI0o, nI0q, nI1q, nm1_lt, nm1_ge, ax_aload_n tX9_init_316, ax_bipush tX9_init_317, ax_newarray tX9_init_319, ax_putR tX9_init_321, ax_putN tX9_init_321]
  try simp (disch := omega) only [z0, o1, nI_add, pk_mul, nI_ltI, nI_leI, nI_eq, nI_clamp, vpn, pk_sub, Nat.add_sub_cancel, bI_0, bI_1, eq_self, true_or, or_true, or_false, false_or, true_and, and_true, false_and, and_false, and_self, or_self, forall_const, not_true_eq_false, not_false_eq_true, false_implies, implies_true, true_implies, ↓reduceIte, if_true, if_false, Nat.not_lt_zero, Nat.zero_le, Nat.le_refl, Nat.lt_irrefl, ne_eq, reduceCtorEq, Bool.false_eq_true]
  repeat (refine ⟨by omega, ?_⟩)
  intro y hy
  have nu : x ≠ y := fun q => by rw [q] at ku; omega
  have km : hK (nA h 112 y 20) x = 11 := by rw [hK_nA, va_up_eq, if_neg nu]; exact ku
  refine ⟨km, ?_⟩
  exact hq y _ (i.step (NEWF_A hy) hy hk (ra_new rfl rfl (by omega)) (by decide))
set_option maxRecDepth 100000 in
set_option maxHeartbeats 1600000 in
theorem ri_324 (i : RIN h0 x h ks xa sc) (hk : ¬ 48 ∈ ks) (hq : ∀ y h', RIN h0 x h' (48 :: ks) (va_up xa 48 y) sc → gG B mX9_init (d + 1) c n 332 [(0, .ref x)] [] h' Q) : gG B mX9_init (d + 1) (c + 1) (n + 20) 324 [(0, .ref x)] [] h Q := by
  have ku := i.1
  refine gAx (cut := [(332, [0])]) okX9_init 20 ?_
  simp only [axC_nil, axC_hit, axC_def, cutAt, lvLive, Option.isSome_none, Option.isSome_some, catS, lvGet, lvIns, lvSet1, lvSet2, gLit_0, gLit_1, lv_args, fv0, fv1, fv2, fv3, isI_s, isL_s, isRf_s, isRf_n, gtI_s, gtL_s, gtV_s, gFilter_nil, gFilter_cons, gL1, gL2, gL3, gL4, gL5, va_rf_s, va_rf_n, hK_sI, hK_sR, hK_sA, hK_sJ, hK_sO, hI_sI, hI_sR, hI_sA, hI_sJ, hI_sO, hR_sI, hR_sR, hR_sA, hR_sJ, hR_sO, hN_sI, hN_sR, hN_sA, hN_sJ, hN_sO, hA_sI, hA_sR, hA_sA, hA_sJ, hA_sO, hJ_sI, hJ_sR, hJ_sA, hJ_sJ, hJ_sO, hO_sI, hO_sR, hO_sA, hO_sJ, hO_sO, up3_eq, up2_eq, List.map_cons, List.map_nil, List.sum_cons, List.sum_nil, List.nil_append, List.cons_append, Option.toList_some, Option.toList_none, true_and, and_true, if_true, if_false, and_self, true_or, or_true, or_false, false_or, false_and, and_false, not_true_eq_false, not_false_eq_true, forall_const, reduceCtorEq, implies_true, List.contains_cons, List.contains_nil, Bool.or_false, Bool.false_or, Bool.or_true, Bool.true_or, Bool.and_true, Bool.true_and, Bool.and_false, Bool.false_and, Bool.not_true, Bool.not_false, BEq.rfl, Bool.false_eq_true, Bool.true_eq_false, eq_self, ↓reduceIte, Nat.reduceAdd, Nat.reduceEqDiff, Nat.reduceBEq, Nat.reduceLT, Nat.reduceLeDiff, Nat.reduceSub, Nat.reduceMul, Nat.reduceBNe, List.append_nil, Nat.zero_le, Nat.zero_add, Nat.zero_ne_one, Nat.one_ne_zero, false_implies, true_implies, not_false_eq_true, ne_eq, upd_e, updL_e, bI_zo, nI0z, nI1o, nI1z, nI0o, nI0q, nI1q, nm1_lt, nm1_ge, ax_aload_n tX9_init_324, ax_bipush tX9_init_325, ax_newarray tX9_init_327, ax_putR tX9_init_329, ax_putN tX9_init_329]
  try simp (disch := omega) only [z0, o1, nI_add, pk_mul, nI_ltI, nI_leI, nI_eq, nI_clamp, vpn, pk_sub, Nat.add_sub_cancel, bI_0, bI_1, eq_self, true_or, or_true, or_false, false_or, true_and, and_true, false_and, and_false, and_self, or_self, forall_const, not_true_eq_false, not_false_eq_true, false_implies, implies_true, true_implies, ↓reduceIte, if_true, if_false, Nat.not_lt_zero, Nat.zero_le, Nat.le_refl, Nat.lt_irrefl, ne_eq, reduceCtorEq, Bool.false_eq_true]
  repeat (refine ⟨by omega, ?_⟩)
  intro y hy
  have nu : x ≠ y := fun q => by rw [q] at ku; omega
  have km : hK (nA h 112 y 20) x = 11 := by rw [hK_nA, va_up_eq, if_neg nu]; exact ku
  refine ⟨km, ?_⟩
  exact hq y _ (i.step (NEWF_A hy) hy hk (ra_new rfl rfl (by omega)) (by decide))
set_option maxRecDepth 100000 in
set_option maxHeartbeats 1600000 in
theorem ri_332 (i : RIN h0 x h ks xa sc) (hk : ¬ 49 ∈ ks) (hq : ∀ y h', RIN h0 x h' (49 :: ks) (va_up xa 49 y) sc → gG B mX9_init (d + 1) c n 340 [(0, .ref x)] [] h' Q) : gG B mX9_init (d + 1) (c + 1) (n + 20) 332 [(0, .ref x)] [] h Q := by
  have ku := i.1
  refine gAx (cut := [(340, [0])]) okX9_init 20 ?_
  simp only [axC_nil, axC_hit, axC_def, cutAt, lvLive, Option.isSome_none, Option.isSome_some, catS, lvGet, lvIns, lvSet1, lvSet2, gLit_0, gLit_1, lv_args, fv0, fv1, fv2, fv3, isI_s, isL_s, isRf_s, isRf_n, gtI_s, gtL_s, gtV_s, gFilter_nil, gFilter_cons, gL1, gL2, gL3, gL4, gL5, va_rf_s, va_rf_n, hK_sI, hK_sR, hK_sA, hK_sJ, hK_sO, hI_sI, hI_sR, hI_sA, hI_sJ, hI_sO, hR_sI, hR_sR, hR_sA, hR_sJ, hR_sO, hN_sI, hN_sR, hN_sA, hN_sJ, hN_sO, hA_sI, hA_sR, hA_sA, hA_sJ, hA_sO, hJ_sI, hJ_sR, hJ_sA, hJ_sJ, hJ_sO, hO_sI, hO_sR, hO_sA, hO_sJ, hO_sO, up3_eq, up2_eq, List.map_cons, List.map_nil, List.sum_cons, List.sum_nil, List.nil_append, List.cons_append, Option.toList_some, Option.toList_none, true_and, and_true, if_true, if_false, and_self, true_or, or_true, or_false, false_or, false_and, and_false, not_true_eq_false, not_false_eq_true, forall_const, reduceCtorEq, implies_true, List.contains_cons, List.contains_nil, Bool.or_false, Bool.false_or, Bool.or_true, Bool.true_or, Bool.and_true, Bool.true_and, Bool.and_false, Bool.false_and, Bool.not_true, Bool.not_false, BEq.rfl, Bool.false_eq_true, Bool.true_eq_false, eq_self, ↓reduceIte, Nat.reduceAdd, Nat.reduceEqDiff, Nat.reduceBEq, Nat.reduceLT, Nat.reduceLeDiff, Nat.reduceSub, Nat.reduceMul, Nat.reduceBNe, List.append_nil, Nat.zero_le, Nat.zero_add, Nat.zero_ne_one, Nat.one_ne_zero, false_implies, true_implies, not_false_eq_true, ne_eq, upd_e, updL_e, bI_zo, nI0z, nI1o, nI1z, nI0o, nI0q, nI1q, nm1_lt, nm1_ge, ax_aload_n tX9_init_332, ax_bipush tX9_init_333, ax_newarray tX9_init_335, ax_putR tX9_init_337, ax_putN tX9_init_337]
  try simp (disch := omega) only [z0, o1, nI_add, pk_mul, nI_ltI, nI_leI, nI_eq, nI_clamp, vpn, pk_sub, Nat.add_sub_cancel, bI_0, bI_1, eq_self, true_or, or_true, or_false, false_or, true_and, and_true, false_and, and_false, and_self, or_self, forall_const, not_true_eq_false, not_false_eq_true, false_implies, implies_true, true_implies, ↓reduceIte, if_true, if_false, Nat.not_lt_zero, Nat.zero_le, Nat.le_refl, Nat.lt_irrefl, ne_eq, reduceCtorEq, Bool.false_eq_true]
  repeat (refine ⟨by omega, ?_⟩)
  intro y hy
  have nu : x ≠ y := fun q => by rw [q] at ku; omega
  have km : hK (nA h 112 y 20) x = 11 := by rw [hK_nA, va_up_eq, if_neg nu]; exact ku
  refine ⟨km, ?_⟩
  exact hq y _ (i.step (NEWF_A hy) hy hk (ra_new rfl rfl (by omega)) (by decide))
set_option maxRecDepth 100000 in
set_option maxHeartbeats 1600000 in
theorem ri_340 (i : RIN h0 x h ks xa sc) (hk : ¬ 50 ∈ ks) (hq : ∀ y h', RIN h0 x h' (50 :: ks) (va_up xa 50 y) sc → gG B mX9_init (d + 1) c n 348 [(0, .ref x)] [] h' Q) : gG B mX9_init (d + 1) (c + 1) (n + 20) 340 [(0, .ref x)] [] h Q := by
  have ku := i.1
  refine gAx (cut := [(348, [0])]) okX9_init 20 ?_
  simp only [axC_nil, axC_hit, axC_def, cutAt, lvLive, Option.isSome_none, Option.isSome_some, catS, lvGet, lvIns, lvSet1, lvSet2, gLit_0, gLit_1, lv_args, fv0, fv1, fv2, fv3, isI_s, isL_s, isRf_s, isRf_n, gtI_s, gtL_s, gtV_s, gFilter_nil, gFilter_cons, gL1, gL2, gL3, gL4, gL5, va_rf_s, va_rf_n, hK_sI, hK_sR, hK_sA, hK_sJ, hK_sO, hI_sI, hI_sR, hI_sA, hI_sJ, hI_sO, hR_sI, hR_sR, hR_sA, hR_sJ, hR_sO, hN_sI, hN_sR, hN_sA, hN_sJ, hN_sO, hA_sI, hA_sR, hA_sA, hA_sJ, hA_sO, hJ_sI, hJ_sR, hJ_sA, hJ_sJ, hJ_sO, hO_sI, hO_sR, hO_sA, hO_sJ, hO_sO, up3_eq, up2_eq, List.map_cons, List.map_nil, List.sum_cons, List.sum_nil, List.nil_append, List.cons_append, Option.toList_some, Option.toList_none, true_and, and_true, if_true, if_false, and_self, true_or, or_true, or_false, false_or, false_and, and_false, not_true_eq_false, not_false_eq_true, forall_const, reduceCtorEq, implies_true, List.contains_cons, List.contains_nil, Bool.or_false, Bool.false_or, Bool.or_true, Bool.true_or, Bool.and_true, Bool.true_and, Bool.and_false, Bool.false_and, Bool.not_true, Bool.not_false, BEq.rfl, Bool.false_eq_true, Bool.true_eq_false, eq_self, ↓reduceIte, Nat.reduceAdd, Nat.reduceEqDiff, Nat.reduceBEq, Nat.reduceLT, Nat.reduceLeDiff, Nat.reduceSub, Nat.reduceMul, Nat.reduceBNe, List.append_nil, Nat.zero_le, Nat.zero_add, Nat.zero_ne_one, Nat.one_ne_zero, false_implies, true_implies, not_false_eq_true, ne_eq, upd_e, updL_e, bI_zo, nI0z, nI1o, nI1z, nI0o, nI0q, nI1q, nm1_lt, nm1_ge, ax_aload_n tX9_init_340, ax_bipush tX9_init_341, ax_newarray tX9_init_343, ax_putR tX9_init_345, ax_putN tX9_init_345]
  try simp (disch := omega) only [z0, o1, nI_add, pk_mul, nI_ltI, nI_leI, nI_eq, nI_clamp, vpn, pk_sub, Nat.add_sub_cancel, bI_0, bI_1, eq_self, true_or, or_true, or_false, false_or, true_and, and_true, false_and, and_false, and_self, or_self, forall_const, not_true_eq_false, not_false_eq_true, false_implies, implies_true, true_implies, ↓reduceIte, if_true, if_false, Nat.not_lt_zero, Nat.zero_le, Nat.le_refl, Nat.lt_irrefl, ne_eq, reduceCtorEq, Bool.false_eq_true]
  repeat (refine ⟨by omega, ?_⟩)
  intro y hy
  have nu : x ≠ y := fun q => by rw [q] at ku; omega
  have km : hK (nA h 112 y 20) x = 11 := by rw [hK_nA, va_up_eq, if_neg nu]; exact ku
  refine ⟨km, ?_⟩
  exact hq y _ (i.step (NEWF_A hy) hy hk (ra_new rfl rfl (by omega)) (by decide))
set_option maxRecDepth 100000 in
set_option maxHeartbeats 1600000 in
theorem ri_348 (i : RIN h0 x h ks xa sc) (hk : ¬ 51 ∈ ks) (hq : ∀ y h', RIN h0 x h' (51 :: ks) (va_up xa 51 y) sc → gG B mX9_init (d + 1) c n 356 [(0, .ref x)] [] h' Q) : gG B mX9_init (d + 1) (c + 1) (n + 80) 348 [(0, .ref x)] [] h Q := by
  have ku := i.1
  refine gAx (cut := [(356, [0])]) okX9_init 20 ?_
  simp only [axC_nil, axC_hit, axC_def, cutAt, lvLive, Option.isSome_none, Option.isSome_some, catS, lvGet, lvIns, lvSet1, lvSet2, gLit_0, gLit_1, lv_args, fv0, fv1, fv2, fv3, isI_s, isL_s, isRf_s, isRf_n, gtI_s, gtL_s, gtV_s, gFilter_nil, gFilter_cons, gL1, gL2, gL3, gL4, gL5, va_rf_s, va_rf_n, hK_sI, hK_sR, hK_sA, hK_sJ, hK_sO, hI_sI, hI_sR, hI_sA, hI_sJ, hI_sO, hR_sI, hR_sR, hR_sA, hR_sJ, hR_sO, hN_sI, hN_sR, hN_sA, hN_sJ, hN_sO, hA_sI, hA_sR, hA_sA, hA_sJ, hA_sO, hJ_sI, hJ_sR, hJ_sA, hJ_sJ, hJ_sO, hO_sI, hO_sR, hO_sA, hO_sJ, hO_sO, up3_eq, up2_eq, List.map_cons, List.map_nil, List.sum_cons, List.sum_nil, List.nil_append, List.cons_append, Option.toList_some, Option.toList_none, true_and, and_true, if_true, if_false, and_self, true_or, or_true, or_false, false_or, false_and, and_false, not_true_eq_false, not_false_eq_true, forall_const, reduceCtorEq, implies_true, List.contains_cons, List.contains_nil, Bool.or_false, Bool.false_or, Bool.or_true, Bool.true_or, Bool.and_true, Bool.true_and, Bool.and_false, Bool.false_and, Bool.not_true, Bool.not_false, BEq.rfl, Bool.false_eq_true, Bool.true_eq_false, eq_self, ↓reduceIte, Nat.reduceAdd, Nat.reduceEqDiff, Nat.reduceBEq, Nat.reduceLT, Nat.reduceLeDiff, Nat.reduceSub, Nat.reduceMul, Nat.reduceBNe, List.append_nil, Nat.zero_le, Nat.zero_add, Nat.zero_ne_one, Nat.one_ne_zero, false_implies, true_implies, not_false_eq_true, ne_eq, upd_e, updL_e, bI_zo, nI0z, nI1o, nI1z, nI0o, nI0q, nI1q, nm1_lt, nm1_ge, ax_aload_n tX9_init_348, ax_bipush tX9_init_349, ax_newarray tX9_init_351, ax_putR tX9_init_353, ax_putN tX9_init_353]
  try simp (disch := omega) only [z0, o1, nI_add, pk_mul, nI_ltI, nI_leI, nI_eq, nI_clamp, vpn, pk_sub, Nat.add_sub_cancel, bI_0, bI_1, eq_self, true_or, or_true, or_false, false_or, true_and, and_true, false_and, and_false, and_self, or_self, forall_const, not_true_eq_false, not_false_eq_true, false_implies, implies_true, true_implies, ↓reduceIte, if_true, if_false, Nat.not_lt_zero, Nat.zero_le, Nat.le_refl, Nat.lt_irrefl, ne_eq, reduceCtorEq, Bool.false_eq_true]
  repeat (refine ⟨by omega, ?_⟩)
  intro y hy
  have nu : x ≠ y := fun q => by rw [q] at ku; omega
  have km : hK (nA h 112 y 80) x = 11 := by rw [hK_nA, va_up_eq, if_neg nu]; exact ku
  refine ⟨km, ?_⟩
  exact hq y _ (i.step (NEWF_A hy) hy hk (ra_new rfl rfl (by omega)) (by decide))
set_option maxRecDepth 100000 in
set_option maxHeartbeats 1600000 in
theorem ri_356 (i : RIN h0 x h ks xa sc) (hk : ¬ 52 ∈ ks) (hq : ∀ y h', RIN h0 x h' (52 :: ks) (va_up xa 52 y) sc → gG B mX9_init (d + 1) c n 364 [(0, .ref x)] [] h' Q) : gG B mX9_init (d + 1) (c + 1) (n + 20) 356 [(0, .ref x)] [] h Q := by
  have ku := i.1
  refine gAx (cut := [(364, [0])]) okX9_init 20 ?_
  simp only [axC_nil, axC_hit, axC_def, cutAt, lvLive, Option.isSome_none, Option.isSome_some, catS, lvGet, lvIns, lvSet1, lvSet2, gLit_0, gLit_1, lv_args, fv0, fv1, fv2, fv3, isI_s, isL_s, isRf_s, isRf_n, gtI_s, gtL_s, gtV_s, gFilter_nil, gFilter_cons, gL1, gL2, gL3, gL4, gL5, va_rf_s, va_rf_n, hK_sI, hK_sR, hK_sA, hK_sJ, hK_sO, hI_sI, hI_sR, hI_sA, hI_sJ, hI_sO, hR_sI, hR_sR, hR_sA, hR_sJ, hR_sO, hN_sI, hN_sR, hN_sA, hN_sJ, hN_sO, hA_sI, hA_sR, hA_sA, hA_sJ, hA_sO, hJ_sI, hJ_sR, hJ_sA, hJ_sJ, hJ_sO, hO_sI, hO_sR, hO_sA, hO_sJ, hO_sO, up3_eq, up2_eq, List.map_cons, List.map_nil, List.sum_cons, List.sum_nil, List.nil_append, List.cons_append, Option.toList_some, Option.toList_none, true_and, and_true, if_true, if_false, and_self, true_or, or_true, or_false, false_or, false_and, and_false, not_true_eq_false, not_false_eq_true, forall_const, reduceCtorEq, implies_true, List.contains_cons, List.contains_nil, Bool.or_false, Bool.false_or, Bool.or_true, Bool.true_or, Bool.and_true, Bool.true_and, Bool.and_false, Bool.false_and, Bool.not_true, Bool.not_false, BEq.rfl, Bool.false_eq_true, Bool.true_eq_false, eq_self, ↓reduceIte, Nat.reduceAdd, Nat.reduceEqDiff, Nat.reduceBEq, Nat.reduceLT, Nat.reduceLeDiff, Nat.reduceSub, Nat.reduceMul, Nat.reduceBNe, List.append_nil, Nat.zero_le, Nat.zero_add, Nat.zero_ne_one, Nat.one_ne_zero, false_implies, true_implies, not_false_eq_true, ne_eq, upd_e, updL_e, bI_zo, nI0z, nI1o, nI1z, nI0o, nI0q, nI1q, nm1_lt, nm1_ge, ax_aload_n tX9_init_356, ax_bipush tX9_init_357, ax_newarray tX9_init_359, ax_putR tX9_init_361, ax_putN tX9_init_361]
  try simp (disch := omega) only [z0, o1, nI_add, pk_mul, nI_ltI, nI_leI, nI_eq, nI_clamp, vpn, pk_sub, Nat.add_sub_cancel, bI_0, bI_1, eq_self, true_or, or_true, or_false, false_or, true_and, and_true, false_and, and_false, and_self, or_self, forall_const, not_true_eq_false, not_false_eq_true, false_implies, implies_true, true_implies, ↓reduceIte, if_true, if_false, Nat.not_lt_zero, Nat.zero_le, Nat.le_refl, Nat.lt_irrefl, ne_eq, reduceCtorEq, Bool.false_eq_true]
  repeat (refine ⟨by omega, ?_⟩)
  intro y hy
  have nu : x ≠ y := fun q => by rw [q] at ku; omega
  have km : hK (nA h 112 y 20) x = 11 := by rw [hK_nA, va_up_eq, if_neg nu]; exact ku
  refine ⟨km, ?_⟩
  exact hq y _ (i.step (NEWF_A hy) hy hk (ra_new rfl rfl (by omega)) (by decide))
set_option maxRecDepth 100000 in
set_option maxHeartbeats 1600000 in
theorem ri_364 (i : RIN h0 x h ks xa sc) (hk : ¬ 53 ∈ ks) (hq : ∀ y h', RIN h0 x h' (53 :: ks) (va_up xa 53 y) sc → gG B mX9_init (d + 1) c n 372 [(0, .ref x)] [] h' Q) : gG B mX9_init (d + 1) (c + 1) (n + 20) 364 [(0, .ref x)] [] h Q := by
  have ku := i.1
  refine gAx (cut := [(372, [0])]) okX9_init 20 ?_
  simp only [axC_nil, axC_hit, axC_def, cutAt, lvLive, Option.isSome_none, Option.isSome_some, catS, lvGet, lvIns, lvSet1, lvSet2, gLit_0, gLit_1, lv_args, fv0, fv1, fv2, fv3, isI_s, isL_s, isRf_s, isRf_n, gtI_s, gtL_s, gtV_s, gFilter_nil, gFilter_cons, gL1, gL2, gL3, gL4, gL5, va_rf_s, va_rf_n, hK_sI, hK_sR, hK_sA, hK_sJ, hK_sO, hI_sI, hI_sR, hI_sA, hI_sJ, hI_sO, hR_sI, hR_sR, hR_sA, hR_sJ, hR_sO, hN_sI, hN_sR, hN_sA, hN_sJ, hN_sO, hA_sI, hA_sR, hA_sA, hA_sJ, hA_sO, hJ_sI, hJ_sR, hJ_sA, hJ_sJ, hJ_sO, hO_sI, hO_sR, hO_sA, hO_sJ, hO_sO, up3_eq, up2_eq, List.map_cons, List.map_nil, List.sum_cons, List.sum_nil, List.nil_append, List.cons_append, Option.toList_some, Option.toList_none, true_and, and_true, if_true, if_false, and_self, true_or, or_true, or_false, false_or, false_and, and_false, not_true_eq_false, not_false_eq_true, forall_const, reduceCtorEq, implies_true, List.contains_cons, List.contains_nil, Bool.or_false, Bool.false_or, Bool.or_true, Bool.true_or, Bool.and_true, Bool.true_and, Bool.and_false, Bool.false_and, Bool.not_true, Bool.not_false, BEq.rfl, Bool.false_eq_true, Bool.true_eq_false, eq_self, ↓reduceIte, Nat.reduceAdd, Nat.reduceEqDiff, Nat.reduceBEq, Nat.reduceLT, Nat.reduceLeDiff, Nat.reduceSub, Nat.reduceMul, Nat.reduceBNe, List.append_nil, Nat.zero_le, Nat.zero_add, Nat.zero_ne_one, Nat.one_ne_zero, false_implies, true_implies, not_false_eq_true, ne_eq, upd_e, updL_e, bI_zo, nI0z, nI1o, nI1z, nI0o, nI0q, nI1q, nm1_lt, nm1_ge, ax_aload_n tX9_init_364, ax_bipush tX9_init_365, ax_newarray tX9_init_367, ax_putR tX9_init_369, ax_putN tX9_init_369]
  try simp (disch := omega) only [z0, o1, nI_add, pk_mul, nI_ltI, nI_leI, nI_eq, nI_clamp, vpn, pk_sub, Nat.add_sub_cancel, bI_0, bI_1, eq_self, true_or, or_true, or_false, false_or, true_and, and_true, false_and, and_false, and_self, or_self, forall_const, not_true_eq_false, not_false_eq_true, false_implies, implies_true, true_implies, ↓reduceIte, if_true, if_false, Nat.not_lt_zero, Nat.zero_le, Nat.le_refl, Nat.lt_irrefl, ne_eq, reduceCtorEq, Bool.false_eq_true]
  repeat (refine ⟨by omega, ?_⟩)
  intro y hy
  have nu : x ≠ y := fun q => by rw [q] at ku; omega
  have km : hK (nA h 112 y 20) x = 11 := by rw [hK_nA, va_up_eq, if_neg nu]; exact ku
  refine ⟨km, ?_⟩
  exact hq y _ (i.step (NEWF_A hy) hy hk (ra_new rfl rfl (by omega)) (by decide))
set_option maxRecDepth 100000 in
set_option maxHeartbeats 1600000 in
theorem ri_372 (i : RIN h0 x h ks xa sc) (hk : ¬ 54 ∈ ks) (hq : ∀ y h', RIN h0 x h' (54 :: ks) (va_up xa 54 y) sc → gG B mX9_init (d + 1) c n 380 [(0, .ref x)] [] h' Q) : gG B mX9_init (d + 1) (c + 1) (n + 20) 372 [(0, .ref x)] [] h Q := by
  have ku := i.1
  refine gAx (cut := [(380, [0])]) okX9_init 20 ?_
  simp only [axC_nil, axC_hit, axC_def, cutAt, lvLive, Option.isSome_none, Option.isSome_some, catS, lvGet, lvIns, lvSet1, lvSet2, gLit_0, gLit_1, lv_args, fv0, fv1, fv2, fv3, isI_s, isL_s, isRf_s, isRf_n, gtI_s, gtL_s, gtV_s, gFilter_nil, gFilter_cons, gL1, gL2, gL3, gL4, gL5, va_rf_s, va_rf_n, hK_sI, hK_sR, hK_sA, hK_sJ, hK_sO, hI_sI, hI_sR, hI_sA, hI_sJ, hI_sO, hR_sI, hR_sR, hR_sA, hR_sJ, hR_sO, hN_sI, hN_sR, hN_sA, hN_sJ, hN_sO, hA_sI, hA_sR, hA_sA, hA_sJ, hA_sO, hJ_sI, hJ_sR, hJ_sA, hJ_sJ, hJ_sO, hO_sI, hO_sR, hO_sA, hO_sJ, hO_sO, up3_eq, up2_eq, List.map_cons, List.map_nil, List.sum_cons, List.sum_nil, List.nil_append, List.cons_append, Option.toList_some, Option.toList_none, true_and, and_true, if_true, if_false, and_self, true_or, or_true, or_false, false_or, false_and, and_false, not_true_eq_false, not_false_eq_true, forall_const, reduceCtorEq, implies_true, List.contains_cons, List.contains_nil, Bool.or_false, Bool.false_or, Bool.or_true, Bool.true_or, Bool.and_true, Bool.true_and, Bool.and_false, Bool.false_and, Bool.not_true, Bool.not_false, BEq.rfl, Bool.false_eq_true, Bool.true_eq_false, eq_self, ↓reduceIte, Nat.reduceAdd, Nat.reduceEqDiff, Nat.reduceBEq, Nat.reduceLT, Nat.reduceLeDiff, Nat.reduceSub, Nat.reduceMul, Nat.reduceBNe, List.append_nil, Nat.zero_le, Nat.zero_add, Nat.zero_ne_one, Nat.one_ne_zero, false_implies, true_implies, not_false_eq_true, ne_eq, upd_e, updL_e, bI_zo, nI0z, nI1o, nI1z, nI0o, nI0q, nI1q, nm1_lt, nm1_ge, ax_aload_n tX9_init_372, ax_bipush tX9_init_373, ax_newarray tX9_init_375, ax_putR tX9_init_377, ax_putN tX9_init_377]
  try simp (disch := omega) only [z0, o1, nI_add, pk_mul, nI_ltI, nI_leI, nI_eq, nI_clamp, vpn, pk_sub, Nat.add_sub_cancel, bI_0, bI_1, eq_self, true_or, or_true, or_false, false_or, true_and, and_true, false_and, and_false, and_self, or_self, forall_const, not_true_eq_false, not_false_eq_true, false_implies, implies_true, true_implies, ↓reduceIte, if_true, if_false, Nat.not_lt_zero, Nat.zero_le, Nat.le_refl, Nat.lt_irrefl, ne_eq, reduceCtorEq, Bool.false_eq_true]
  repeat (refine ⟨by omega, ?_⟩)
  intro y hy
  have nu : x ≠ y := fun q => by rw [q] at ku; omega
  have km : hK (nA h 112 y 20) x = 11 := by rw [hK_nA, va_up_eq, if_neg nu]; exact ku
  refine ⟨km, ?_⟩
  exact hq y _ (i.step (NEWF_A hy) hy hk (ra_new rfl rfl (by omega)) (by decide))
set_option maxRecDepth 100000 in
set_option maxHeartbeats 1600000 in
theorem ri_380 (i : RIN h0 x h ks xa sc) (hk : ¬ 55 ∈ ks) (hq : ∀ y h', RIN h0 x h' (55 :: ks) (va_up xa 55 y) sc → gG B mX9_init (d + 1) c n 388 [(0, .ref x)] [] h' Q) : gG B mX9_init (d + 1) (c + 1) (n + 100000) 380 [(0, .ref x)] [] h Q := by
  have ku := i.1
  refine gAx (cut := [(388, [0])]) okX9_init 20 ?_
  simp only [axC_nil, axC_hit, axC_def, cutAt, lvLive, Option.isSome_none, Option.isSome_some, catS, lvGet, lvIns, lvSet1, lvSet2, gLit_0, gLit_1, lv_args, fv0, fv1, fv2, fv3, isI_s, isL_s, isRf_s, isRf_n, gtI_s, gtL_s, gtV_s, gFilter_nil, gFilter_cons, gL1, gL2, gL3, gL4, gL5, va_rf_s, va_rf_n, hK_sI, hK_sR, hK_sA, hK_sJ, hK_sO, hI_sI, hI_sR, hI_sA, hI_sJ, hI_sO, hR_sI, hR_sR, hR_sA, hR_sJ, hR_sO, hN_sI, hN_sR, hN_sA, hN_sJ, hN_sO, hA_sI, hA_sR, hA_sA, hA_sJ, hA_sO, hJ_sI, hJ_sR, hJ_sA, hJ_sJ, hJ_sO, hO_sI, hO_sR, hO_sA, hO_sJ, hO_sO, up3_eq, up2_eq, List.map_cons, List.map_nil, List.sum_cons, List.sum_nil, List.nil_append, List.cons_append, Option.toList_some, Option.toList_none, true_and, and_true, if_true, if_false, and_self, true_or, or_true, or_false, false_or, false_and, and_false, not_true_eq_false, not_false_eq_true, forall_const, reduceCtorEq, implies_true, List.contains_cons, List.contains_nil, Bool.or_false, Bool.false_or, Bool.or_true, Bool.true_or, Bool.and_true, Bool.true_and, Bool.and_false, Bool.false_and, Bool.not_true, Bool.not_false, BEq.rfl, Bool.false_eq_true, Bool.true_eq_false, eq_self, ↓reduceIte, Nat.reduceAdd, Nat.reduceEqDiff, Nat.reduceBEq, Nat.reduceLT, Nat.reduceLeDiff, Nat.reduceSub, Nat.reduceMul, Nat.reduceBNe, List.append_nil, Nat.zero_le, Nat.zero_add, Nat.zero_ne_one, Nat.one_ne_zero, false_implies, true_implies, not_false_eq_true, ne_eq, upd_e, updL_e, bI_zo, nI0z, nI1o, nI1z, nI0o, nI0q, nI1q, nm1_lt, nm1_ge, ax_aload_n tX9_init_380, ax_ldc tX9_init_381, ax_newarray tX9_init_383, ax_putR tX9_init_385, ax_putN tX9_init_385]
  try simp (disch := omega) only [z0, o1, nI_add, pk_mul, nI_ltI, nI_leI, nI_eq, nI_clamp, vpn, pk_sub, Nat.add_sub_cancel, bI_0, bI_1, eq_self, true_or, or_true, or_false, false_or, true_and, and_true, false_and, and_false, and_self, or_self, forall_const, not_true_eq_false, not_false_eq_true, false_implies, implies_true, true_implies, ↓reduceIte, if_true, if_false, Nat.not_lt_zero, Nat.zero_le, Nat.le_refl, Nat.lt_irrefl, ne_eq, reduceCtorEq, Bool.false_eq_true]
  repeat (refine ⟨by omega, ?_⟩)
  intro y hy
  have nu : x ≠ y := fun q => by rw [q] at ku; omega
  have km : hK (nA h 114 y 100000) x = 11 := by rw [hK_nA, va_up_eq, if_neg nu]; exact ku
  refine ⟨km, ?_⟩
  exact hq y _ (i.step (NEWF_A hy) hy hk (ra_new rfl rfl (by omega)) (by decide))
set_option maxRecDepth 100000 in
set_option maxHeartbeats 1600000 in
theorem ri_388 (i : RIN h0 x h ks xa sc) (hk : ¬ 56 ∈ ks) (hq : ∀ y h', RIN h0 x h' (56 :: ks) (va_up xa 56 y) sc → gG B mX9_init (d + 1) c n 397 [(0, .ref x)] [] h' Q) : gG B mX9_init (d + 1) (c + 1) (n + 2400) 388 [(0, .ref x)] [] h Q := by
  have ku := i.1
  refine gAx (cut := [(397, [0])]) okX9_init 20 ?_
  simp only [axC_nil, axC_hit, axC_def, cutAt, lvLive, Option.isSome_none, Option.isSome_some, catS, lvGet, lvIns, lvSet1, lvSet2, gLit_0, gLit_1, lv_args, fv0, fv1, fv2, fv3, isI_s, isL_s, isRf_s, isRf_n, gtI_s, gtL_s, gtV_s, gFilter_nil, gFilter_cons, gL1, gL2, gL3, gL4, gL5, va_rf_s, va_rf_n, hK_sI, hK_sR, hK_sA, hK_sJ, hK_sO, hI_sI, hI_sR, hI_sA, hI_sJ, hI_sO, hR_sI, hR_sR, hR_sA, hR_sJ, hR_sO, hN_sI, hN_sR, hN_sA, hN_sJ, hN_sO, hA_sI, hA_sR, hA_sA, hA_sJ, hA_sO, hJ_sI, hJ_sR, hJ_sA, hJ_sJ, hJ_sO, hO_sI, hO_sR, hO_sA, hO_sJ, hO_sO, up3_eq, up2_eq, List.map_cons, List.map_nil, List.sum_cons, List.sum_nil, List.nil_append, List.cons_append, Option.toList_some, Option.toList_none, true_and, and_true, if_true, if_false, and_self, true_or, or_true, or_false, false_or, false_and, and_false, not_true_eq_false, not_false_eq_true, forall_const, reduceCtorEq, implies_true, List.contains_cons, List.contains_nil, Bool.or_false, Bool.false_or, Bool.or_true, Bool.true_or, Bool.and_true, Bool.true_and, Bool.and_false, Bool.false_and, Bool.not_true, Bool.not_false, BEq.rfl, Bool.false_eq_true, Bool.true_eq_false, eq_self, ↓reduceIte, Nat.reduceAdd, Nat.reduceEqDiff, Nat.reduceBEq, Nat.reduceLT, Nat.reduceLeDiff, Nat.reduceSub, Nat.reduceMul, Nat.reduceBNe, List.append_nil, Nat.zero_le, Nat.zero_add, Nat.zero_ne_one, Nat.one_ne_zero, false_implies, true_implies, not_false_eq_true, ne_eq, upd_e, updL_e, bI_zo, nI0z, nI1o, nI1z, nI0o, nI0q, nI1q, nm1_lt, nm1_ge, ax_aload_n tX9_init_388, ax_sipush tX9_init_389, ax_newarray tX9_init_392, ax_putR tX9_init_394, ax_putN tX9_init_394]
  try simp (disch := omega) only [z0, o1, nI_add, pk_mul, nI_ltI, nI_leI, nI_eq, nI_clamp, vpn, pk_sub, Nat.add_sub_cancel, bI_0, bI_1, eq_self, true_or, or_true, or_false, false_or, true_and, and_true, false_and, and_false, and_self, or_self, forall_const, not_true_eq_false, not_false_eq_true, false_implies, implies_true, true_implies, ↓reduceIte, if_true, if_false, Nat.not_lt_zero, Nat.zero_le, Nat.le_refl, Nat.lt_irrefl, ne_eq, reduceCtorEq, Bool.false_eq_true]
  repeat (refine ⟨by omega, ?_⟩)
  intro y hy
  have nu : x ≠ y := fun q => by rw [q] at ku; omega
  have km : hK (nA h 114 y 2400) x = 11 := by rw [hK_nA, va_up_eq, if_neg nu]; exact ku
  refine ⟨km, ?_⟩
  exact hq y _ (i.step (NEWF_A hy) hy hk (ra_new rfl rfl (by omega)) (by decide))
set_option maxRecDepth 100000 in
set_option maxHeartbeats 1600000 in
theorem ri_397 (i : RIN h0 x h ks xa sc) (hk : ¬ 58 ∈ ks) (hq : ∀ y h', RIN h0 x h' (58 :: ks) (va_up xa 58 y) sc → gG B mX9_init (d + 1) c n 406 [(0, .ref x)] [] h' Q) : gG B mX9_init (d + 1) (c + 1) (n + 300) 397 [(0, .ref x)] [] h Q := by
  have ku := i.1
  refine gAx (cut := [(406, [0])]) okX9_init 20 ?_
  simp only [axC_nil, axC_hit, axC_def, cutAt, lvLive, Option.isSome_none, Option.isSome_some, catS, lvGet, lvIns, lvSet1, lvSet2, gLit_0, gLit_1, lv_args, fv0, fv1, fv2, fv3, isI_s, isL_s, isRf_s, isRf_n, gtI_s, gtL_s, gtV_s, gFilter_nil, gFilter_cons, gL1, gL2, gL3, gL4, gL5, va_rf_s, va_rf_n, hK_sI, hK_sR, hK_sA, hK_sJ, hK_sO, hI_sI, hI_sR, hI_sA, hI_sJ, hI_sO, hR_sI, hR_sR, hR_sA, hR_sJ, hR_sO, hN_sI, hN_sR, hN_sA, hN_sJ, hN_sO, hA_sI, hA_sR, hA_sA, hA_sJ, hA_sO, hJ_sI, hJ_sR, hJ_sA, hJ_sJ, hJ_sO, hO_sI, hO_sR, hO_sA, hO_sJ, hO_sO, up3_eq, up2_eq, List.map_cons, List.map_nil, List.sum_cons, List.sum_nil, List.nil_append, List.cons_append, Option.toList_some, Option.toList_none, true_and, and_true, if_true, if_false, and_self, true_or, or_true, or_false, false_or, false_and, and_false, not_true_eq_false, not_false_eq_true, forall_const, reduceCtorEq, implies_true, List.contains_cons, List.contains_nil, Bool.or_false, Bool.false_or, Bool.or_true, Bool.true_or, Bool.and_true, Bool.true_and, Bool.and_false, Bool.false_and, Bool.not_true, Bool.not_false, BEq.rfl, Bool.false_eq_true, Bool.true_eq_false, eq_self, ↓reduceIte, Nat.reduceAdd, Nat.reduceEqDiff, Nat.reduceBEq, Nat.reduceLT, Nat.reduceLeDiff, Nat.reduceSub, Nat.reduceMul, Nat.reduceBNe, List.append_nil, Nat.zero_le, Nat.zero_add, Nat.zero_ne_one, Nat.one_ne_zero, false_implies, true_implies, not_false_eq_true, ne_eq, upd_e, updL_e, bI_zo, nI0z, nI1o, nI1z, nI0o, nI0q, nI1q, nm1_lt, nm1_ge, ax_aload_n tX9_init_397, ax_sipush tX9_init_398, ax_newarray tX9_init_401, ax_putR tX9_init_403, ax_putN tX9_init_403]
  try simp (disch := omega) only [z0, o1, nI_add, pk_mul, nI_ltI, nI_leI, nI_eq, nI_clamp, vpn, pk_sub, Nat.add_sub_cancel, bI_0, bI_1, eq_self, true_or, or_true, or_false, false_or, true_and, and_true, false_and, and_false, and_self, or_self, forall_const, not_true_eq_false, not_false_eq_true, false_implies, implies_true, true_implies, ↓reduceIte, if_true, if_false, Nat.not_lt_zero, Nat.zero_le, Nat.le_refl, Nat.lt_irrefl, ne_eq, reduceCtorEq, Bool.false_eq_true]
  repeat (refine ⟨by omega, ?_⟩)
  intro y hy
  have nu : x ≠ y := fun q => by rw [q] at ku; omega
  have km : hK (nA h 112 y 300) x = 11 := by rw [hK_nA, va_up_eq, if_neg nu]; exact ku
  refine ⟨km, ?_⟩
  exact hq y _ (i.step (NEWF_A hy) hy hk (ra_new rfl rfl (by omega)) (by decide))
set_option maxRecDepth 100000 in
set_option maxHeartbeats 1600000 in
theorem ri_406 (i : RIN h0 x h ks xa sc) (hk : ¬ 59 ∈ ks) (hq : ∀ y h', RIN h0 x h' (59 :: ks) (va_up xa 59 y) sc → gG B mX9_init (d + 1) c n 415 [(0, .ref x)] [] h' Q) : gG B mX9_init (d + 1) (c + 1) (n + 300) 406 [(0, .ref x)] [] h Q := by
  have ku := i.1
  refine gAx (cut := [(415, [0])]) okX9_init 20 ?_
  simp only [axC_nil, axC_hit, axC_def, cutAt, lvLive, Option.isSome_none, Option.isSome_some, catS, lvGet, lvIns, lvSet1, lvSet2, gLit_0, gLit_1, lv_args, fv0, fv1, fv2, fv3, isI_s, isL_s, isRf_s, isRf_n, gtI_s, gtL_s, gtV_s, gFilter_nil, gFilter_cons, gL1, gL2, gL3, gL4, gL5, va_rf_s, va_rf_n, hK_sI, hK_sR, hK_sA, hK_sJ, hK_sO, hI_sI, hI_sR, hI_sA, hI_sJ, hI_sO, hR_sI, hR_sR, hR_sA, hR_sJ, hR_sO, hN_sI, hN_sR, hN_sA, hN_sJ, hN_sO, hA_sI, hA_sR, hA_sA, hA_sJ, hA_sO, hJ_sI, hJ_sR, hJ_sA, hJ_sJ, hJ_sO, hO_sI, hO_sR, hO_sA, hO_sJ, hO_sO, up3_eq, up2_eq, List.map_cons, List.map_nil, List.sum_cons, List.sum_nil, List.nil_append, List.cons_append, Option.toList_some, Option.toList_none, true_and, and_true, if_true, if_false, and_self, true_or, or_true, or_false, false_or, false_and, and_false, not_true_eq_false, not_false_eq_true, forall_const, reduceCtorEq, implies_true, List.contains_cons, List.contains_nil, Bool.or_false, Bool.false_or, Bool.or_true, Bool.true_or, Bool.and_true, Bool.true_and, Bool.and_false, Bool.false_and, Bool.not_true, Bool.not_false, BEq.rfl, Bool.false_eq_true, Bool.true_eq_false, eq_self, ↓reduceIte, Nat.reduceAdd, Nat.reduceEqDiff, Nat.reduceBEq, Nat.reduceLT, Nat.reduceLeDiff, Nat.reduceSub, Nat.reduceMul, Nat.reduceBNe, List.append_nil, Nat.zero_le, Nat.zero_add, Nat.zero_ne_one, Nat.one_ne_zero, false_implies, true_implies, not_false_eq_true, ne_eq, upd_e, updL_e, bI_zo, nI0z, nI1o, nI1z, nI0o, nI0q, nI1q, nm1_lt, nm1_ge, ax_aload_n tX9_init_406, ax_sipush tX9_init_407, ax_newarray tX9_init_410, ax_putR tX9_init_412, ax_putN tX9_init_412]
  try simp (disch := omega) only [z0, o1, nI_add, pk_mul, nI_ltI, nI_leI, nI_eq, nI_clamp, vpn, pk_sub, Nat.add_sub_cancel, bI_0, bI_1, eq_self, true_or, or_true, or_false, false_or, true_and, and_true, false_and, and_false, and_self, or_self, forall_const, not_true_eq_false, not_false_eq_true, false_implies, implies_true, true_implies, ↓reduceIte, if_true, if_false, Nat.not_lt_zero, Nat.zero_le, Nat.le_refl, Nat.lt_irrefl, ne_eq, reduceCtorEq, Bool.false_eq_true]
  repeat (refine ⟨by omega, ?_⟩)
  intro y hy
  have nu : x ≠ y := fun q => by rw [q] at ku; omega
  have km : hK (nA h 112 y 300) x = 11 := by rw [hK_nA, va_up_eq, if_neg nu]; exact ku
  refine ⟨km, ?_⟩
  exact hq y _ (i.step (NEWF_A hy) hy hk (ra_new rfl rfl (by omega)) (by decide))
set_option maxRecDepth 100000 in
set_option maxHeartbeats 1600000 in
theorem ri_415 (i : RIN h0 x h ks xa sc) (hk : ¬ 60 ∈ ks) (hq : ∀ y h', RIN h0 x h' (60 :: ks) (va_up xa 60 y) sc → gG B mX9_init (d + 1) c n 424 [(0, .ref x)] [] h' Q) : gG B mX9_init (d + 1) (c + 1) (n + 300) 415 [(0, .ref x)] [] h Q := by
  have ku := i.1
  refine gAx (cut := [(424, [0])]) okX9_init 20 ?_
  simp only [axC_nil, axC_hit, axC_def, cutAt, lvLive, Option.isSome_none, Option.isSome_some, catS, lvGet, lvIns, lvSet1, lvSet2, gLit_0, gLit_1, lv_args, fv0, fv1, fv2, fv3, isI_s, isL_s, isRf_s, isRf_n, gtI_s, gtL_s, gtV_s, gFilter_nil, gFilter_cons, gL1, gL2, gL3, gL4, gL5, va_rf_s, va_rf_n, hK_sI, hK_sR, hK_sA, hK_sJ, hK_sO, hI_sI, hI_sR, hI_sA, hI_sJ, hI_sO, hR_sI, hR_sR, hR_sA, hR_sJ, hR_sO, hN_sI, hN_sR, hN_sA, hN_sJ, hN_sO, hA_sI, hA_sR, hA_sA, hA_sJ, hA_sO, hJ_sI, hJ_sR, hJ_sA, hJ_sJ, hJ_sO, hO_sI, hO_sR, hO_sA, hO_sJ, hO_sO, up3_eq, up2_eq, List.map_cons, List.map_nil, List.sum_cons, List.sum_nil, List.nil_append, List.cons_append, Option.toList_some, Option.toList_none, true_and, and_true, if_true, if_false, and_self, true_or, or_true, or_false, false_or, false_and, and_false, not_true_eq_false, not_false_eq_true, forall_const, reduceCtorEq, implies_true, List.contains_cons, List.contains_nil, Bool.or_false, Bool.false_or, Bool.or_true, Bool.true_or, Bool.and_true, Bool.true_and, Bool.and_false, Bool.false_and, Bool.not_true, Bool.not_false, BEq.rfl, Bool.false_eq_true, Bool.true_eq_false, eq_self, ↓reduceIte, Nat.reduceAdd, Nat.reduceEqDiff, Nat.reduceBEq, Nat.reduceLT, Nat.reduceLeDiff, Nat.reduceSub, Nat.reduceMul, Nat.reduceBNe, List.append_nil, Nat.zero_le, Nat.zero_add, Nat.zero_ne_one, Nat.one_ne_zero, false_implies, true_implies, not_false_eq_true, ne_eq, upd_e, updL_e, bI_zo, nI0z, nI1o, nI1z, nI0o, nI0q, nI1q, nm1_lt, nm1_ge, ax_aload_n tX9_init_415, ax_sipush tX9_init_416, ax_newarray tX9_init_419, ax_putR tX9_init_421, ax_putN tX9_init_421]
  try simp (disch := omega) only [z0, o1, nI_add, pk_mul, nI_ltI, nI_leI, nI_eq, nI_clamp, vpn, pk_sub, Nat.add_sub_cancel, bI_0, bI_1, eq_self, true_or, or_true, or_false, false_or, true_and, and_true, false_and, and_false, and_self, or_self, forall_const, not_true_eq_false, not_false_eq_true, false_implies, implies_true, true_implies, ↓reduceIte, if_true, if_false, Nat.not_lt_zero, Nat.zero_le, Nat.le_refl, Nat.lt_irrefl, ne_eq, reduceCtorEq, Bool.false_eq_true]
  repeat (refine ⟨by omega, ?_⟩)
  intro y hy
  have nu : x ≠ y := fun q => by rw [q] at ku; omega
  have km : hK (nA h 112 y 300) x = 11 := by rw [hK_nA, va_up_eq, if_neg nu]; exact ku
  refine ⟨km, ?_⟩
  exact hq y _ (i.step (NEWF_A hy) hy hk (ra_new rfl rfl (by omega)) (by decide))
set_option maxRecDepth 100000 in
set_option maxHeartbeats 1600000 in
theorem ri_424 (i : RIN h0 x h ks xa sc) (hk : ¬ 61 ∈ ks) (hq : ∀ y h', RIN h0 x h' (61 :: ks) (va_up xa 61 y) sc → gG B mX9_init (d + 1) c n 433 [(0, .ref x)] [] h' Q) : gG B mX9_init (d + 1) (c + 1) (n + 3600) 424 [(0, .ref x)] [] h Q := by
  have ku := i.1
  refine gAx (cut := [(433, [0])]) okX9_init 20 ?_
  simp only [axC_nil, axC_hit, axC_def, cutAt, lvLive, Option.isSome_none, Option.isSome_some, catS, lvGet, lvIns, lvSet1, lvSet2, gLit_0, gLit_1, lv_args, fv0, fv1, fv2, fv3, isI_s, isL_s, isRf_s, isRf_n, gtI_s, gtL_s, gtV_s, gFilter_nil, gFilter_cons, gL1, gL2, gL3, gL4, gL5, va_rf_s, va_rf_n, hK_sI, hK_sR, hK_sA, hK_sJ, hK_sO, hI_sI, hI_sR, hI_sA, hI_sJ, hI_sO, hR_sI, hR_sR, hR_sA, hR_sJ, hR_sO, hN_sI, hN_sR, hN_sA, hN_sJ, hN_sO, hA_sI, hA_sR, hA_sA, hA_sJ, hA_sO, hJ_sI, hJ_sR, hJ_sA, hJ_sJ, hJ_sO, hO_sI, hO_sR, hO_sA, hO_sJ, hO_sO, up3_eq, up2_eq, List.map_cons, List.map_nil, List.sum_cons, List.sum_nil, List.nil_append, List.cons_append, Option.toList_some, Option.toList_none, true_and, and_true, if_true, if_false, and_self, true_or, or_true, or_false, false_or, false_and, and_false, not_true_eq_false, not_false_eq_true, forall_const, reduceCtorEq, implies_true, List.contains_cons, List.contains_nil, Bool.or_false, Bool.false_or, Bool.or_true, Bool.true_or, Bool.and_true, Bool.true_and, Bool.and_false, Bool.false_and, Bool.not_true, Bool.not_false, BEq.rfl, Bool.false_eq_true, Bool.true_eq_false, eq_self, ↓reduceIte, Nat.reduceAdd, Nat.reduceEqDiff, Nat.reduceBEq, Nat.reduceLT, Nat.reduceLeDiff, Nat.reduceSub, Nat.reduceMul, Nat.reduceBNe, List.append_nil, Nat.zero_le, Nat.zero_add, Nat.zero_ne_one, Nat.one_ne_zero, false_implies, true_implies, not_false_eq_true, ne_eq, upd_e, updL_e, bI_zo, nI0z, nI1o, nI1z, nI0o, nI0q, nI1q, nm1_lt, nm1_ge, ax_aload_n tX9_init_424, ax_sipush tX9_init_425, ax_newarray tX9_init_428, ax_putR tX9_init_430, ax_putN tX9_init_430]
  try simp (disch := omega) only [z0, o1, nI_add, pk_mul, nI_ltI, nI_leI, nI_eq, nI_clamp, vpn, pk_sub, Nat.add_sub_cancel, bI_0, bI_1, eq_self, true_or, or_true, or_false, false_or, true_and, and_true, false_and, and_false, and_self, or_self, forall_const, not_true_eq_false, not_false_eq_true, false_implies, implies_true, true_implies, ↓reduceIte, if_true, if_false, Nat.not_lt_zero, Nat.zero_le, Nat.le_refl, Nat.lt_irrefl, ne_eq, reduceCtorEq, Bool.false_eq_true]
  repeat (refine ⟨by omega, ?_⟩)
  intro y hy
  have nu : x ≠ y := fun q => by rw [q] at ku; omega
  have km : hK (nA h 112 y 3600) x = 11 := by rw [hK_nA, va_up_eq, if_neg nu]; exact ku
  refine ⟨km, ?_⟩
  exact hq y _ (i.step (NEWF_A hy) hy hk (ra_new rfl rfl (by omega)) (by decide))
set_option maxRecDepth 100000 in
set_option maxHeartbeats 1600000 in
theorem ri_433 (i : RIN h0 x h ks xa sc) (hk : ¬ 62 ∈ ks) (hq : ∀ y h', RIN h0 x h' (62 :: ks) (va_up xa 62 y) sc → gG B mX9_init (d + 1) c n 441 [(0, .ref x)] [] h' Q) : gG B mX9_init (d + 1) (c + 1) (n + 40) 433 [(0, .ref x)] [] h Q := by
  have ku := i.1
  refine gAx (cut := [(441, [0])]) okX9_init 20 ?_
  simp only [axC_nil, axC_hit, axC_def, cutAt, lvLive, Option.isSome_none, Option.isSome_some, catS, lvGet, lvIns, lvSet1, lvSet2, gLit_0, gLit_1, lv_args, fv0, fv1, fv2, fv3, isI_s, isL_s, isRf_s, isRf_n, gtI_s, gtL_s, gtV_s, gFilter_nil, gFilter_cons, gL1, gL2, gL3, gL4, gL5, va_rf_s, va_rf_n, hK_sI, hK_sR, hK_sA, hK_sJ, hK_sO, hI_sI, hI_sR, hI_sA, hI_sJ, hI_sO, hR_sI, hR_sR, hR_sA, hR_sJ, hR_sO, hN_sI, hN_sR, hN_sA, hN_sJ, hN_sO, hA_sI, hA_sR, hA_sA, hA_sJ, hA_sO, hJ_sI, hJ_sR, hJ_sA, hJ_sJ, hJ_sO, hO_sI, hO_sR, hO_sA, hO_sJ, hO_sO, up3_eq, up2_eq, List.map_cons, List.map_nil, List.sum_cons, List.sum_nil, List.nil_append, List.cons_append, Option.toList_some, Option.toList_none, true_and, and_true, if_true, if_false, and_self, true_or, or_true, or_false, false_or, false_and, and_false, not_true_eq_false, not_false_eq_true, forall_const, reduceCtorEq, implies_true, List.contains_cons, List.contains_nil, Bool.or_false, Bool.false_or, Bool.or_true, Bool.true_or, Bool.and_true, Bool.true_and, Bool.and_false, Bool.false_and, Bool.not_true, Bool.not_false, BEq.rfl, Bool.false_eq_true, Bool.true_eq_false, eq_self, ↓reduceIte, Nat.reduceAdd, Nat.reduceEqDiff, Nat.reduceBEq, Nat.reduceLT, Nat.reduceLeDiff, Nat.reduceSub, Nat.reduceMul, Nat.reduceBNe, List.append_nil, Nat.zero_le, Nat.zero_add, Nat.zero_ne_one, Nat.one_ne_zero, false_implies, true_implies, not_false_eq_true, ne_eq, upd_e, updL_e, bI_zo, nI0z, nI1o, nI1z, nI0o, nI0q, nI1q, nm1_lt, nm1_ge, ax_aload_n tX9_init_433, ax_bipush tX9_init_434, ax_newarray tX9_init_436, ax_putR tX9_init_438, ax_putN tX9_init_438]
  try simp (disch := omega) only [z0, o1, nI_add, pk_mul, nI_ltI, nI_leI, nI_eq, nI_clamp, vpn, pk_sub, Nat.add_sub_cancel, bI_0, bI_1, eq_self, true_or, or_true, or_false, false_or, true_and, and_true, false_and, and_false, and_self, or_self, forall_const, not_true_eq_false, not_false_eq_true, false_implies, implies_true, true_implies, ↓reduceIte, if_true, if_false, Nat.not_lt_zero, Nat.zero_le, Nat.le_refl, Nat.lt_irrefl, ne_eq, reduceCtorEq, Bool.false_eq_true]
  repeat (refine ⟨by omega, ?_⟩)
  intro y hy
  have nu : x ≠ y := fun q => by rw [q] at ku; omega
  have km : hK (nA h 114 y 40) x = 11 := by rw [hK_nA, va_up_eq, if_neg nu]; exact ku
  refine ⟨km, ?_⟩
  exact hq y _ (i.step (NEWF_A hy) hy hk (ra_new rfl rfl (by omega)) (by decide))
set_option maxRecDepth 100000 in
set_option maxHeartbeats 1600000 in
theorem ri_441 (i : RIN h0 x h ks xa sc) (hk : ¬ 63 ∈ ks) (hq : ∀ y h', RIN h0 x h' (63 :: ks) (va_up xa 63 y) sc → gG B mX9_init (d + 1) c n 449 [(0, .ref x)] [] h' Q) : gG B mX9_init (d + 1) (c + 1) (n + 120) 441 [(0, .ref x)] [] h Q := by
  have ku := i.1
  refine gAx (cut := [(449, [0])]) okX9_init 20 ?_
  simp only [axC_nil, axC_hit, axC_def, cutAt, lvLive, Option.isSome_none, Option.isSome_some, catS, lvGet, lvIns, lvSet1, lvSet2, gLit_0, gLit_1, lv_args, fv0, fv1, fv2, fv3, isI_s, isL_s, isRf_s, isRf_n, gtI_s, gtL_s, gtV_s, gFilter_nil, gFilter_cons, gL1, gL2, gL3, gL4, gL5, va_rf_s, va_rf_n, hK_sI, hK_sR, hK_sA, hK_sJ, hK_sO, hI_sI, hI_sR, hI_sA, hI_sJ, hI_sO, hR_sI, hR_sR, hR_sA, hR_sJ, hR_sO, hN_sI, hN_sR, hN_sA, hN_sJ, hN_sO, hA_sI, hA_sR, hA_sA, hA_sJ, hA_sO, hJ_sI, hJ_sR, hJ_sA, hJ_sJ, hJ_sO, hO_sI, hO_sR, hO_sA, hO_sJ, hO_sO, up3_eq, up2_eq, List.map_cons, List.map_nil, List.sum_cons, List.sum_nil, List.nil_append, List.cons_append, Option.toList_some, Option.toList_none, true_and, and_true, if_true, if_false, and_self, true_or, or_true, or_false, false_or, false_and, and_false, not_true_eq_false, not_false_eq_true, forall_const, reduceCtorEq, implies_true, List.contains_cons, List.contains_nil, Bool.or_false, Bool.false_or, Bool.or_true, Bool.true_or, Bool.and_true, Bool.true_and, Bool.and_false, Bool.false_and, Bool.not_true, Bool.not_false, BEq.rfl, Bool.false_eq_true, Bool.true_eq_false, eq_self, ↓reduceIte, Nat.reduceAdd, Nat.reduceEqDiff, Nat.reduceBEq, Nat.reduceLT, Nat.reduceLeDiff, Nat.reduceSub, Nat.reduceMul, Nat.reduceBNe, List.append_nil, Nat.zero_le, Nat.zero_add, Nat.zero_ne_one, Nat.one_ne_zero, false_implies, true_implies, not_false_eq_true, ne_eq, upd_e, updL_e, bI_zo, nI0z, nI1o, nI1z, nI0o, nI0q, nI1q, nm1_lt, nm1_ge, ax_aload_n tX9_init_441, ax_bipush tX9_init_442, ax_newarray tX9_init_444, ax_putR tX9_init_446, ax_putN tX9_init_446]
  try simp (disch := omega) only [z0, o1, nI_add, pk_mul, nI_ltI, nI_leI, nI_eq, nI_clamp, vpn, pk_sub, Nat.add_sub_cancel, bI_0, bI_1, eq_self, true_or, or_true, or_false, false_or, true_and, and_true, false_and, and_false, and_self, or_self, forall_const, not_true_eq_false, not_false_eq_true, false_implies, implies_true, true_implies, ↓reduceIte, if_true, if_false, Nat.not_lt_zero, Nat.zero_le, Nat.le_refl, Nat.lt_irrefl, ne_eq, reduceCtorEq, Bool.false_eq_true]
  repeat (refine ⟨by omega, ?_⟩)
  intro y hy
  have nu : x ≠ y := fun q => by rw [q] at ku; omega
  have km : hK (nA h 114 y 120) x = 11 := by rw [hK_nA, va_up_eq, if_neg nu]; exact ku
  refine ⟨km, ?_⟩
  exact hq y _ (i.step (NEWF_A hy) hy hk (ra_new rfl rfl (by omega)) (by decide))
end INID
