/-! THE DESK: days of an ask -/
theorem offN_le (a : Nat → Nat → Nat) (b c : Nat) : ∀ k j, j ≤ k → offN a b c j ≤ offN a b c k := by
  intro k
  induction k with
  | zero => intro j h; rw [show j = 0 by omega]; omega
  | succ k ih =>
    intro j h
    by_cases e : j = k + 1
    · rw [e]; omega
    · have := ih j (by omega)
      have e2 : offN a b c (k + 1) = offN a b c k + wkD a b (c + 1 + k) := rfl
      omega
theorem offN_cg {a a' : Nat → Nat → Nat} {b c : Nat} : ∀ k, (∀ j, j < k → wkD a' b (c + 1 + j) = wkD a b (c + 1 + j)) → offN a' b c k = offN a b c k := by
  intro k
  induction k with
  | zero => intro _; rfl
  | succ k ih => intro h; unfold offN; rw [ih (fun j hj => h j (by omega)), h k (by omega)]
theorem offN_z {a : Nat → Nat → Nat} {b c k : Nat} : ∀ m, (∀ j, k ≤ j → j < k + m → wkD a b (c + 1 + j) = 0) → offN a b c (k + m) = offN a b c k := by
  intro m
  induction m with
  | zero => intro _; rfl
  | succ m ih =>
    intro h
    show offN a b c (k + m) + wkD a b (c + 1 + (k + m)) = _
    rw [ih (fun j h1 h2 => h j h1 (by omega)), h (k + m) (by omega) (by omega)]
    omega
theorem dueR_go {a : Nat → Nat → Nat} {b c : Nat} : ∀ k, c + k ≤ 4999 → (∀ j, j < k → offN a b c j < 20) → ∀ f, dueR a b (f + k) 0 c = dueR a b f (offN a b c k) (c + k) := by
  intro k
  induction k with
  | zero => intro _ _ f; rfl
  | succ k ih =>
    intro h1 h2 f
    rw [show f + (k + 1) = (f + 1) + k by omega, ih (by omega) (fun j hj => h2 j (by omega)) (f + 1)]
    show (if offN a b c k < 20 ∧ c + k < 4999 then dueR a b f (offN a b c k + wkD a b (c + k + 1)) (c + k + 1) else c + k) = _
    rw [if_pos ⟨h2 k (by omega), by omega⟩]
    show _ = dueR a b f (offN a b c k + wkD a b (c + 1 + k)) (c + (k + 1))
    rw [show c + k + 1 = c + 1 + k by omega, show c + (k + 1) = c + 1 + k by omega]
theorem dueR_C {a : Nat → Nat → Nat} {b : Nat} : ∀ f g w d, 4999 ≤ d + f → 4999 ≤ d + g → (w < 20 → ∀ e, d < e → e < 5000 → a 55 (5000 * b + e) = 0) → dueR a b f w d = dueC g w d := by
  intro f
  induction f with
  | zero =>
    intro g w d h1 h2 h3
    rcases g with _ | g
    · rfl
    · show d = if w < 20 ∧ d < 4999 then _ else d
      rw [if_neg (by omega)]
  | succ f ih =>
    intro g w d h1 h2 h3
    rcases g with _ | g
    · show (if w < 20 ∧ d < 4999 then _ else d) = d
      rw [if_neg (by omega)]
    · show (if w < 20 ∧ d < 4999 then dueR a b f (w + wkD a b (d + 1)) (d + 1) else d) = if w < 20 ∧ d < 4999 then dueC g (w + wkN (d + 1)) (d + 1) else d
      by_cases q : w < 20 ∧ d < 4999
      · rw [if_pos q, if_pos q]
        have e : wkD a b (d + 1) = wkN (d + 1) := by
          unfold wkD wkN
          rw [h3 q.1 (d + 1) (by omega) (by omega)]
          simp
        rw [e]
        exact ih g _ _ (by omega) (by omega) (fun _ e h4 h5 => h3 q.1 e (by omega) h5)
      · rw [if_neg q, if_neg q]
theorem DAY.due {s : Nat → Nat} {a : Nat → Nat → Nat} {b sd w : Nat} (hd : DAY s a b sd w) : dueC 5000 w sd = dueR a b 4999 0 (a 52 b) := by
  obtain ⟨c1, c2, c3, c4, c5, c6, c7, c8⟩ := hd
  have h1 := dueR_go (a := a) (b := b) (c := a 52 b) (sd - a 52 b) (by omega) (fun j hj => by
    rcases c5 with q | q
    · omega
    · have := offN_le a b (a 52 b) (sd - a 52 b - 1) j (by omega)
      omega) (4999 - (sd - a 52 b))
  rw [show 4999 - (sd - a 52 b) + (sd - a 52 b) = 4999 by omega, ← c4, show a 52 b + (sd - a 52 b) = sd by omega] at h1
  rw [h1]
  exact (dueR_C _ _ _ _ (by omega) (by omega) c6).symm
theorem DAY.cnt {s : Nat → Nat} {a : Nat → Nat → Nat} {b : Nat} (h24 : s 24 ≤ 4999) (h54 : a 54 b = 0) : ∀ f p, s 24 ≤ p.1 + 1 + f → DAY s a b p.1 p.2 → DAY s a b (cntT (s 24) f p).1 (cntT (s 24) f p).2 ∧ ((cntT (s 24) f p).2 < 20 → s 24 ≤ (cntT (s 24) f p).1 + 1) := by
  intro f
  induction f with
  | zero => intro p h1 h2; exact ⟨h2, fun _ => by unfold cntT; omega⟩
  | succ f ih =>
    intro p h1 h2
    unfold cntT
    by_cases q : p.1 + 1 < s 24 ∧ p.2 < 20
    · rw [if_pos q]
      refine ih _ (by simp only; omega) ?_
      obtain ⟨c1, c2, c3, c4, c5, c6, c7, c8⟩ := h2
      have e : wkD a b (p.1 + 1) = wkN (p.1 + 1) := by
        unfold wkD wkN
        rw [c6 q.2 (p.1 + 1) (by omega) (by omega)]
        simp
      have hw : wkN (p.1 + 1) ≤ 1 := by unfold wkN; split <;> omega
      have ek : p.1 + 1 - a 52 b = (p.1 - a 52 b) + 1 := by omega
      have eo : offN a b (a 52 b) (p.1 - a 52 b + 1) = offN a b (a 52 b) (p.1 - a 52 b) + wkD a b (a 52 b + 1 + (p.1 - a 52 b)) := rfl
      rw [show a 52 b + 1 + (p.1 - a 52 b) = p.1 + 1 by omega, e] at eo
      simp only
      refine ⟨by omega, by omega, by omega, by rw [ek, eo]; omega, Or.inr (by rw [ek, Nat.add_sub_cancel]; omega), fun _ d h3 h4 => c6 q.2 d (by omega) h4, Or.inr (by omega), fun u hu => by omega⟩
    · rw [if_neg q]
      exact ⟨h2, fun _ => by omega⟩
theorem DAY.stop {s : Nat → Nat} {a a' : Nat → Nat → Nat} {b sd w : Nat} (hd : DAY s a b sd w) (hu : w < 20 → s 24 ≤ sd + 1) (h52 : a' 52 b = a 52 b) (h54 : a' 54 b = s 24 + 1) (h55 : ∀ j, a' 55 j = a 55 j) : DAY s a' b sd w := by
  obtain ⟨c1, c2, c3, c4, c5, c6, c7, c8⟩ := hd
  have eo : ∀ k, offN a' b (a 52 b) k = offN a b (a 52 b) k := fun k => offN_cg k (fun j _ => by unfold wkD; rw [h55])
  unfold DAY
  rw [h52, eo, eo]
  refine ⟨c1, c2, c3, c4, c5, fun hw d h1 h2 => by rw [h55]; exact c6 hw d h1 h2, c7, fun u e => ?_⟩
  rw [h54] at e
  obtain rfl : s 24 = u := by omega
  exact ⟨hu, by omega⟩
theorem DAY.go {s : Nat → Nat} {a a' : Nat → Nat → Nat} {b sd w u : Nat} (h24 : s 24 ≤ 4999) (hd : DAY s a b sd w) (hu : a 54 b = u + 1) (h52 : a' 52 b = a 52 b) (h54 : a' 54 b = 0) (h55 : ∀ d, d < 5000 → a' 55 (5000 * b + d) = if u ≤ d ∧ d < s 24 then 1 else a 55 (5000 * b + d)) : DAY s a' b (skpT (s 24) (sd, w)).1 (skpT (s 24) (sd, w)).2 := by
  obtain ⟨c1, c2, c3, c4, c5, c6, c7, c8⟩ := hd
  obtain ⟨c8, c9⟩ := c8 u hu
  have eo : ∀ k, k ≤ sd - a 52 b → offN a' b (a 52 b) k = offN a b (a 52 b) k := fun k hk => offN_cg k (fun j hj => by
    have e := h55 (a 52 b + 1 + j) (by omega)
    rw [if_neg (by omega)] at e
    unfold wkD
    rw [e])
  unfold skpT
  simp only
  by_cases q : w < 20 ∧ sd + 1 < s 24
  · rw [if_pos q]
    simp only
    have ez : offN a' b (a 52 b) (s 24 - 1 - a 52 b) = offN a' b (a 52 b) (sd - a 52 b) := by
      have := offN_z (a := a') (b := b) (c := a 52 b) (k := sd - a 52 b) (s 24 - 1 - sd) (fun j h1 h2 => by
        have e := h55 (a 52 b + 1 + j) (by omega)
        rw [if_pos (by have := c8 q.1; omega)] at e
        unfold wkD
        rw [e]
        simp)
      rw [show sd - a 52 b + (s 24 - 1 - sd) = s 24 - 1 - a 52 b by omega] at this
      exact this
    rw [eo _ (Nat.le_refl _)] at ez
    refine ⟨by omega, by omega, c3, by rw [h52, ez]; exact c4, Or.inr ?_, fun _ d h1 h2 => ?_, Or.inr (by omega), fun v e => by omega⟩
    · have := offN_le a' b (a 52 b) (s 24 - 1 - a 52 b) (s 24 - 1 - a 52 b - 1) (by omega)
      rw [h52]
      omega
    · rw [h55 d h2, if_neg (by omega)]
      exact c6 q.1 d (by omega) h2
  · rw [if_neg q]
    simp only
    refine ⟨by omega, c2, c3, by rw [h52, eo _ (Nat.le_refl _)]; exact c4, by rw [h52, eo _ (by omega)]; exact c5, fun hw d h1 h2 => ?_, by rw [h52]; exact c7, fun v e => by omega⟩
    rw [h55 d h2, if_neg (by omega)]
    exact c6 hw d h1 h2
theorem ASK.V10 {h : gHp} {z V W : Nat → Nat} {y : Nat} (ha : ASK h z V W) (hy : y ≤ 1) : ASK (sI h 1 9 (z 0) (nI y)) z (va_up V 10 y) W := by
  obtain ⟨⟨k0, r5, k5, n5⟩, ⟨v0, v1, v2, v3, v4, v6, v7, v9, v10, v11, v12⟩, b6, b10, b11, b12, bv, aw, bw⟩ := ha
  refine ⟨⟨k0, r5, k5, n5⟩, ?_, ?_, ?_, ?_, ?_, ?_, ?_, bw⟩
  · simp only [hI_sI, up3_eq, va_up_eq, Nat.reduceLeDiff, Nat.reduceLT, Nat.reduceEqDiff, Nat.one_ne_zero, Nat.zero_ne_one, Nat.reduceSub, Nat.reduceAdd, eq_self, true_or, or_true, or_false, false_or, true_and, and_true, false_and, and_false, and_self, or_self, forall_const, not_true_eq_false, not_false_eq_true, false_implies, implies_true, true_implies, ↓reduceIte, if_true, if_false, Nat.not_lt_zero, Nat.zero_le, Nat.le_refl, Nat.lt_irrefl, ne_eq, reduceCtorEq, Bool.false_eq_true, false_and, true_and]
    exact ⟨v0, v1, v2, v3, v4, v6, v7, v9, v11, v12⟩
  · simp [va_up_eq]; exact b6
  · simp [va_up_eq]; exact hy
  · simp [va_up_eq]; exact b11
  · simp [va_up_eq]; exact b12
  · intro k
    simp only [va_up_eq]
    split
    · omega
    · exact bv k
  · intro k hk
    simp [va_up_eq] at hk
    exact aw k hk
theorem akN_st {s : Nat → Nat} {a a' : Nat → Nat → Nat} {b sd w y : Nat} {p : Nat × Nat} (ha : ∀ k j, k ≠ 54 → k ≠ 55 → a' k j = a k j) (hy : (if a' 54 b = 0 then 0 else 1) = y) : va_up (askV (akN s a b sd w) p) 10 y = akN s a' b p.1 p.2 := by
  funext k
  simp only [va_up_eq, askV, akN, hy, ha 47 _ (by omega) (by omega), ha 48 _ (by omega) (by omega), ha 49 _ (by omega) (by omega), ha 50 _ (by omega) (by omega), ha 52 _ (by omega) (by omega), ha 53 _ (by omega) (by omega), ha 58 _ (by omega) (by omega)]
  by_cases e10 : k = 10
  · simp [e10]
  · by_cases e12 : k = 12
    · simp [e12]
    · by_cases e11 : k = 11
      · simp [e11]
      · simp [e10, e11, e12]
section X8C
variable {B : gB} {h : gHp} {d E v : Nat} {Y : gYm} {ow : Nat → gTag} {rl : List (Nat × List (Nat × Nat))} {s : Nat → Nat} {a : Nat → Nat → Nat} {Q : Option Value → gHp → Prop}
set_option maxRecDepth 100000 in
set_option maxHeartbeats 1600000 in
theorem x_due (hd : DS E Y ow v rl h s a) (wp : WP s a) (b : Int32) (h1 : ∀ i, b = nI i → i < s 46 → a 54 i = 0 → Q (some (.int (nI (dueR a i 4999 0 (a 52 i))))) h) (h0 : (∀ i, b = nI i → i < s 46 → a 54 i = 0 → False) → Q (some (.int (-nI 1))) h) (h46 : s 46 ≤ 20) : gFn B mX8_due (d + 5) 0 0 [.ref (Y 0 0 0), .int b] h Q := by
  obtain ⟨own, d0, df, dt, db, dl, dp, dg, dx, da, dh, du, dr⟩ := id hd
  obtain ⟨c0, i24, i25, i44, ⟨r1, r3, r5, r6, r7, r8, r9⟩, ⟨r11, r12, r13⟩, hm, hm1, hm2, hm3⟩ := id d0
  have l5 := dl.1.1
  have l6 := dl.2.1.1
  have l7 := dl.2.2.1.1
  have l8 := dl.2.2.2.1.1
  have l9 := dl.2.2.2.2.1
  have wpb := wp.1
  refine gStartX (cut := []) pnX8_due okX8_due (Nat.le_of_ble_eq_true rfl) 40 ?_
  simp only [axC_nil, axC_hit, axC_def, cutAt, lvLive, Option.isSome_none, Option.isSome_some, catS, lvGet, lvIns, lvSet1, lvSet2, gLit_0, gLit_1, lv_args, fv0, fv1, fv2, fv3, isI_s, isL_s, isRf_s, isRf_n, gtI_s, gtL_s, gtV_s, gFilter_nil, gFilter_cons, gL1, gL2, gL3, gL4, gL5, va_rf_s, va_rf_n, hK_sI, hK_sR, hK_sA, hK_sJ, hK_sO, hI_sI, hI_sR, hI_sA, hI_sJ, hI_sO, hR_sI, hR_sR, hR_sA, hR_sJ, hR_sO, hN_sI, hN_sR, hN_sA, hN_sJ, hN_sO, hA_sI, hA_sR, hA_sA, hA_sJ, hA_sO, hJ_sI, hJ_sR, hJ_sA, hJ_sJ, hJ_sO, hO_sI, hO_sR, hO_sA, hO_sJ, hO_sO, up3_eq, up2_eq, List.map_cons, List.map_nil, List.sum_cons, List.sum_nil, List.nil_append, List.cons_append, Option.toList_some, Option.toList_none, true_and, and_true, if_true, if_false, and_self, true_or, or_true, or_false, false_or, false_and, and_false, not_true_eq_false, not_false_eq_true, forall_const, reduceCtorEq, implies_true, List.contains_cons, List.contains_nil, Bool.or_false, Bool.false_or, Bool.or_true, Bool.true_or, Bool.and_true, Bool.true_and, Bool.and_false, Bool.false_and, Bool.not_true, Bool.not_false, BEq.rfl, Bool.false_eq_true, Bool.true_eq_false, eq_self, ↓reduceIte, Nat.reduceAdd, Nat.reduceEqDiff, Nat.reduceBEq, Nat.reduceLT, Nat.reduceLeDiff, Nat.reduceSub, Nat.reduceMul, Nat.reduceBNe, List.append_nil, Nat.zero_le, Nat.zero_add, Nat.zero_ne_one, Nat.one_ne_zero, false_implies, true_implies, not_false_eq_true, ne_eq, upd_e, updL_e, bI_zo, nI0z, nI1o, nI1z, nI0o, nI0q, nI1q, nm1_lt, nm1_ge, ax_aload_n tX8_due_0, ax_iload_n tX8_due_1, ax_callV1 tX8_due_2, ax_astore_nR tX8_due_5, ax_astore_nN tX8_due_5, ax_aload_n tX8_due_6, ax_ifnullR tX8_due_7, ax_ifnullN tX8_due_7, ax_aload_n tX8_due_10, ax_getZ tX8_due_11, ax_if_eq tX8_due_14, ax_iconst tX8_due_17, ax_goto tX8_due_18, ax_aload_n tX8_due_21, ax_callV0 tX8_due_22, ax_iretI tX8_due_25, f_8, f_88, c0]
  refine x_askAt hd wp b (fun j e hj => ?_) (fun c => ?_)
  · obtain ⟨sd, w, ak, dy⟩ := da j hj
    have k0 := ak.1.1
    have v10 : hI h 1 9 (Y 5 j 0) = nI (if a 54 j = 0 then 0 else 1) := ak.2.1.2.2.2.2.2.2.2.2.1
    refine gAx (cut := []) okX8_due 40 ?_
    simp only [axC_nil, axC_hit, axC_def, cutAt, lvLive, Option.isSome_none, Option.isSome_some, catS, lvGet, lvIns, lvSet1, lvSet2, gLit_0, gLit_1, lv_args, fv0, fv1, fv2, fv3, isI_s, isL_s, isRf_s, isRf_n, gtI_s, gtL_s, gtV_s, gFilter_nil, gFilter_cons, gL1, gL2, gL3, gL4, gL5, va_rf_s, va_rf_n, hK_sI, hK_sR, hK_sA, hK_sJ, hK_sO, hI_sI, hI_sR, hI_sA, hI_sJ, hI_sO, hR_sI, hR_sR, hR_sA, hR_sJ, hR_sO, hN_sI, hN_sR, hN_sA, hN_sJ, hN_sO, hA_sI, hA_sR, hA_sA, hA_sJ, hA_sO, hJ_sI, hJ_sR, hJ_sA, hJ_sJ, hJ_sO, hO_sI, hO_sR, hO_sA, hO_sJ, hO_sO, up3_eq, up2_eq, List.map_cons, List.map_nil, List.sum_cons, List.sum_nil, List.nil_append, List.cons_append, Option.toList_some, Option.toList_none, true_and, and_true, if_true, if_false, and_self, true_or, or_true, or_false, false_or, false_and, and_false, not_true_eq_false, not_false_eq_true, forall_const, reduceCtorEq, implies_true, List.contains_cons, List.contains_nil, Bool.or_false, Bool.false_or, Bool.or_true, Bool.true_or, Bool.and_true, Bool.true_and, Bool.and_false, Bool.false_and, Bool.not_true, Bool.not_false, BEq.rfl, Bool.false_eq_true, Bool.true_eq_false, eq_self, ↓reduceIte, Nat.reduceAdd, Nat.reduceEqDiff, Nat.reduceBEq, Nat.reduceLT, Nat.reduceLeDiff, Nat.reduceSub, Nat.reduceMul, Nat.reduceBNe, List.append_nil, Nat.zero_le, Nat.zero_add, Nat.zero_ne_one, Nat.one_ne_zero, false_implies, true_implies, not_false_eq_true, ne_eq, upd_e, updL_e, bI_zo, nI0z, nI1o, nI1z, nI0o, nI0q, nI1q, nm1_lt, nm1_ge, ax_aload_n tX8_due_0, ax_iload_n tX8_due_1, ax_callV1 tX8_due_2, ax_astore_nR tX8_due_5, ax_astore_nN tX8_due_5, ax_aload_n tX8_due_6, ax_ifnullR tX8_due_7, ax_ifnullN tX8_due_7, ax_aload_n tX8_due_10, ax_getZ tX8_due_11, ax_if_eq tX8_due_14, ax_iconst tX8_due_17, ax_goto tX8_due_18, ax_aload_n tX8_due_21, ax_callV0 tX8_due_22, ax_iretI tX8_due_25, f_8, f_88, k0, v10]
    by_cases q : a 54 j = 0
    · simp only [q, eq_self, true_or, or_true, or_false, false_or, true_and, and_true, false_and, and_false, and_self, or_self, forall_const, not_true_eq_false, not_false_eq_true, false_implies, implies_true, true_implies, ↓reduceIte, if_true, if_false, Nat.not_lt_zero, Nat.zero_le, Nat.le_refl, Nat.lt_irrefl, ne_eq, reduceCtorEq, Bool.false_eq_true]
      try simp (disch := omega) only [z0, o1, nI_add, pk_mul, nI_ltI, nI_leI, nI_eq, nI_clamp, vpn, pk_sub, Nat.add_sub_cancel, bI_0, bI_1, eq_self, true_or, or_true, or_false, false_or, true_and, and_true, false_and, and_false, and_self, or_self, forall_const, not_true_eq_false, not_false_eq_true, false_implies, implies_true, true_implies, ↓reduceIte, if_true, if_false, Nat.not_lt_zero, Nat.zero_le, Nat.le_refl, Nat.lt_irrefl, ne_eq, reduceCtorEq, Bool.false_eq_true]
      refine x_dueDay (d := d + 2) ak ?_
      refine gAx (cut := []) okX8_due 40 ?_
      simp only [axC_nil, axC_hit, axC_def, cutAt, lvLive, Option.isSome_none, Option.isSome_some, catS, lvGet, lvIns, lvSet1, lvSet2, gLit_0, gLit_1, lv_args, fv0, fv1, fv2, fv3, isI_s, isL_s, isRf_s, isRf_n, gtI_s, gtL_s, gtV_s, gFilter_nil, gFilter_cons, gL1, gL2, gL3, gL4, gL5, va_rf_s, va_rf_n, hK_sI, hK_sR, hK_sA, hK_sJ, hK_sO, hI_sI, hI_sR, hI_sA, hI_sJ, hI_sO, hR_sI, hR_sR, hR_sA, hR_sJ, hR_sO, hN_sI, hN_sR, hN_sA, hN_sJ, hN_sO, hA_sI, hA_sR, hA_sA, hA_sJ, hA_sO, hJ_sI, hJ_sR, hJ_sA, hJ_sJ, hJ_sO, hO_sI, hO_sR, hO_sA, hO_sJ, hO_sO, up3_eq, up2_eq, List.map_cons, List.map_nil, List.sum_cons, List.sum_nil, List.nil_append, List.cons_append, Option.toList_some, Option.toList_none, true_and, and_true, if_true, if_false, and_self, true_or, or_true, or_false, false_or, false_and, and_false, not_true_eq_false, not_false_eq_true, forall_const, reduceCtorEq, implies_true, List.contains_cons, List.contains_nil, Bool.or_false, Bool.false_or, Bool.or_true, Bool.true_or, Bool.and_true, Bool.true_and, Bool.and_false, Bool.false_and, Bool.not_true, Bool.not_false, BEq.rfl, Bool.false_eq_true, Bool.true_eq_false, eq_self, ↓reduceIte, Nat.reduceAdd, Nat.reduceEqDiff, Nat.reduceBEq, Nat.reduceLT, Nat.reduceLeDiff, Nat.reduceSub, Nat.reduceMul, Nat.reduceBNe, List.append_nil, Nat.zero_le, Nat.zero_add, Nat.zero_ne_one, Nat.one_ne_zero, false_implies, true_implies, not_false_eq_true, ne_eq, upd_e, updL_e, bI_zo, nI0z, nI1o, nI1z, nI0o, nI0q, nI1q, nm1_lt, nm1_ge, ax_aload_n tX8_due_0, ax_iload_n tX8_due_1, ax_callV1 tX8_due_2, ax_astore_nR tX8_due_5, ax_astore_nN tX8_due_5, ax_aload_n tX8_due_6, ax_ifnullR tX8_due_7, ax_ifnullN tX8_due_7, ax_aload_n tX8_due_10, ax_getZ tX8_due_11, ax_if_eq tX8_due_14, ax_iconst tX8_due_17, ax_goto tX8_due_18, ax_aload_n tX8_due_21, ax_callV0 tX8_due_22, ax_iretI tX8_due_25, f_8, f_88]
      have := h1 j e hj q
      rw [← dy.due] at this
      exact this
    · simp only [q, eq_self, true_or, or_true, or_false, false_or, true_and, and_true, false_and, and_false, and_self, or_self, forall_const, not_true_eq_false, not_false_eq_true, false_implies, implies_true, true_implies, ↓reduceIte, if_true, if_false, Nat.not_lt_zero, Nat.zero_le, Nat.le_refl, Nat.lt_irrefl, ne_eq, reduceCtorEq, Bool.false_eq_true]
      try simp (disch := omega) only [z0, o1, nI_add, pk_mul, nI_ltI, nI_leI, nI_eq, nI_clamp, vpn, pk_sub, Nat.add_sub_cancel, bI_0, bI_1, eq_self, true_or, or_true, or_false, false_or, true_and, and_true, false_and, and_false, and_self, or_self, forall_const, not_true_eq_false, not_false_eq_true, false_implies, implies_true, true_implies, ↓reduceIte, if_true, if_false, Nat.not_lt_zero, Nat.zero_le, Nat.le_refl, Nat.lt_irrefl, ne_eq, reduceCtorEq, Bool.false_eq_true]
      refine h0 (fun i e2 h2 h3 => ?_)
      rw [e, nI_eq (by omega) (by omega)] at e2
      subst e2
      exact q h3
  · refine gAx (cut := []) okX8_due 40 ?_
    simp only [axC_nil, axC_hit, axC_def, cutAt, lvLive, Option.isSome_none, Option.isSome_some, catS, lvGet, lvIns, lvSet1, lvSet2, gLit_0, gLit_1, lv_args, fv0, fv1, fv2, fv3, isI_s, isL_s, isRf_s, isRf_n, gtI_s, gtL_s, gtV_s, gFilter_nil, gFilter_cons, gL1, gL2, gL3, gL4, gL5, va_rf_s, va_rf_n, hK_sI, hK_sR, hK_sA, hK_sJ, hK_sO, hI_sI, hI_sR, hI_sA, hI_sJ, hI_sO, hR_sI, hR_sR, hR_sA, hR_sJ, hR_sO, hN_sI, hN_sR, hN_sA, hN_sJ, hN_sO, hA_sI, hA_sR, hA_sA, hA_sJ, hA_sO, hJ_sI, hJ_sR, hJ_sA, hJ_sJ, hJ_sO, hO_sI, hO_sR, hO_sA, hO_sJ, hO_sO, up3_eq, up2_eq, List.map_cons, List.map_nil, List.sum_cons, List.sum_nil, List.nil_append, List.cons_append, Option.toList_some, Option.toList_none, true_and, and_true, if_true, if_false, and_self, true_or, or_true, or_false, false_or, false_and, and_false, not_true_eq_false, not_false_eq_true, forall_const, reduceCtorEq, implies_true, List.contains_cons, List.contains_nil, Bool.or_false, Bool.false_or, Bool.or_true, Bool.true_or, Bool.and_true, Bool.true_and, Bool.and_false, Bool.false_and, Bool.not_true, Bool.not_false, BEq.rfl, Bool.false_eq_true, Bool.true_eq_false, eq_self, ↓reduceIte, Nat.reduceAdd, Nat.reduceEqDiff, Nat.reduceBEq, Nat.reduceLT, Nat.reduceLeDiff, Nat.reduceSub, Nat.reduceMul, Nat.reduceBNe, List.append_nil, Nat.zero_le, Nat.zero_add, Nat.zero_ne_one, Nat.one_ne_zero, false_implies, true_implies, not_false_eq_true, ne_eq, upd_e, updL_e, bI_zo, nI0z, nI1o, nI1z, nI0o, nI0q, nI1q, nm1_lt, nm1_ge, ax_aload_n tX8_due_0, ax_iload_n tX8_due_1, ax_callV1 tX8_due_2, ax_astore_nR tX8_due_5, ax_astore_nN tX8_due_5, ax_aload_n tX8_due_6, ax_ifnullR tX8_due_7, ax_ifnullN tX8_due_7, ax_aload_n tX8_due_10, ax_getZ tX8_due_11, ax_if_eq tX8_due_14, ax_iconst tX8_due_17, ax_goto tX8_due_18, ax_aload_n tX8_due_21, ax_callV0 tX8_due_22, ax_iretI tX8_due_25, f_8, f_88]
    exact h0 (fun i e hi _ => c i hi e)
set_option maxRecDepth 100000 in
set_option maxHeartbeats 3200000 in
theorem x_stop (hd : DS E Y ow v rl h s a) (wp : WP s a) (h46 : s 46 ≤ 20) (b : Int32) (y : Nat) (hy : y ≤ 1)
    (h1 : ∀ i h', b = nI i → i < s 46 → a 54 i = 0 → y = 1 → DS E Y ow v rl h' s (up2 a 54 i (s 24 + 1)) → FRO ow [(5, i, 0)] h h' → Q (some (.int (nI 1))) h')
    (h2 : ∀ i u h', b = nI i → i < s 46 → a 54 i = u + 1 → y = 0 → DS E Y ow v rl h' s (up2 (stU a i u (s 24)) 54 i 0) → FRO ow [(5, i, 0)] h h' → Q (some (.int (nI 1))) h')
    (h0 : (∀ i, b = nI i → i < s 46 → (a 54 i = 0 ↔ y = 0)) → Q (some (.int (nI 0))) h) : gFn B mX8_stop (d + 5) 0 0 [.ref (Y 0 0 0), .int b, .int (nI y)] h Q := by
  obtain ⟨own, d0, df, dt, db, dl, dp, dg, dx, da, dh, du, dr⟩ := id hd
  obtain ⟨c0, i24, i25, i44, ⟨r1, r3, r5, r6, r7, r8, r9⟩, ⟨r11, r12, r13⟩, hm, hm1, hm2, hm3⟩ := id d0
  have l5 := dl.1.1
  have l6 := dl.2.1.1
  have l7 := dl.2.2.1.1
  have l8 := dl.2.2.2.1.1
  have l9 := dl.2.2.2.2.1
  have wpb := wp.1
  refine gStartX (cut := []) pnX8_stop okX8_stop (Nat.le_of_ble_eq_true rfl) 40 ?_
  simp only [axC_nil, axC_hit, axC_def, cutAt, lvLive, Option.isSome_none, Option.isSome_some, catS, lvGet, lvIns, lvSet1, lvSet2, gLit_0, gLit_1, lv_args, fv0, fv1, fv2, fv3, isI_s, isL_s, isRf_s, isRf_n, gtI_s, gtL_s, gtV_s, gFilter_nil, gFilter_cons, gL1, gL2, gL3, gL4, gL5, va_rf_s, va_rf_n, hK_sI, hK_sR, hK_sA, hK_sJ, hK_sO, hI_sI, hI_sR, hI_sA, hI_sJ, hI_sO, hR_sI, hR_sR, hR_sA, hR_sJ, hR_sO, hN_sI, hN_sR, hN_sA, hN_sJ, hN_sO, hA_sI, hA_sR, hA_sA, hA_sJ, hA_sO, hJ_sI, hJ_sR, hJ_sA, hJ_sJ, hJ_sO, hO_sI, hO_sR, hO_sA, hO_sJ, hO_sO, up3_eq, up2_eq, List.map_cons, List.map_nil, List.sum_cons, List.sum_nil, List.nil_append, List.cons_append, Option.toList_some, Option.toList_none, true_and, and_true, if_true, if_false, and_self, true_or, or_true, or_false, false_or, false_and, and_false, not_true_eq_false, not_false_eq_true, forall_const, reduceCtorEq, implies_true, List.contains_cons, List.contains_nil, Bool.or_false, Bool.false_or, Bool.or_true, Bool.true_or, Bool.and_true, Bool.true_and, Bool.and_false, Bool.false_and, Bool.not_true, Bool.not_false, BEq.rfl, Bool.false_eq_true, Bool.true_eq_false, eq_self, ↓reduceIte, Nat.reduceAdd, Nat.reduceEqDiff, Nat.reduceBEq, Nat.reduceLT, Nat.reduceLeDiff, Nat.reduceSub, Nat.reduceMul, Nat.reduceBNe, List.append_nil, Nat.zero_le, Nat.zero_add, Nat.zero_ne_one, Nat.one_ne_zero, false_implies, true_implies, not_false_eq_true, ne_eq, upd_e, updL_e, bI_zo, nI0z, nI1o, nI1z, nI0o, nI0q, nI1q, nm1_lt, nm1_ge, ax_aload_n tX8_stop_0, ax_iload_n tX8_stop_1, ax_callV1 tX8_stop_2, ax_astore_nR tX8_stop_5, ax_astore_nN tX8_stop_5, ax_aload_n tX8_stop_6, ax_ifnullR tX8_stop_7, ax_ifnullN tX8_stop_7, ax_aload_n tX8_stop_10, ax_getZ tX8_stop_11, ax_iload_n tX8_stop_14, ax_icmp_ne tX8_stop_15, ax_iconst tX8_stop_18, ax_iretZ tX8_stop_19, ax_iload_n tX8_stop_20, ax_if_eq tX8_stop_21, ax_aload_n tX8_stop_24, ax_aload_n tX8_stop_25, ax_getI tX8_stop_26, ax_iconst tX8_stop_29, ax_isub tX8_stop_30, ax_callV1 tX8_stop_31, ax_goto tX8_stop_34, ax_aload_n tX8_stop_37, ax_aload_n tX8_stop_38, ax_getI tX8_stop_39, ax_iconst tX8_stop_42, ax_isub tX8_stop_43, ax_callV1 tX8_stop_44, ax_aload_n tX8_stop_47, ax_iload_n tX8_stop_48, ax_putZ tX8_stop_49, ax_iconst tX8_stop_52, ax_iretZ tX8_stop_53, f_6, f_7, f_88, c0]
  refine x_askAt hd wp b (fun j e hj => ?_) (fun c => ?_)
  · obtain ⟨sd, w, ak, dy⟩ := da j hj
    have o0 := (own 5 j 0 (And.intro (by omega) (by omega))).2
    have k0 := ak.1.1
    have v10 : hI h 1 9 (Y 5 j 0) = nI (if a 54 j = 0 then 0 else 1) := ak.2.1.2.2.2.2.2.2.2.2.1
    -- the end: a new row of numbers
    have fin : ∀ h1 h2 (a' : Nat → Nat → Nat) (p : Nat × Nat), h2 = sI h1 1 9 (Y 5 j 0) (nI y) → FRM [(1, 10, Y 5 j 0), (1, 11, Y 5 j 0)] [] h h1 → ASK h1 (Y 5 j) (askV (akN s a j sd w) p) (fun k => if k < 4 then a 51 (4 * j + k) else 0) → (∀ k i, k ≠ 54 → k ≠ 55 → a' k i = a k i) → (∀ i, i ≠ j → a' 54 i = a 54 i) → (∀ i, i ≠ j → ∀ d, d < 5000 → a' 55 (5000 * i + d) = a 55 (5000 * i + d)) → (if a' 54 j = 0 then 0 else 1) = y → DAY s a' j p.1 p.2 → DS E Y ow v rl h2 s a' ∧ FRO ow [(5, j, 0)] h h2 := by
      intro h1 h2 a' p hh f1 ak1 ha h54 h55 hy2 dy2
      have hf : FRO ow [(5, j, 0)] h h2 := by rw [hh]; exact (f1.fro (by simp [o0])).sI (Or.inl (by simp [o0]))
      have ak2 := ak1.V10 hy
      rw [akN_st ha hy2, ← hh] at ak2
      have ea : a' = fun k i => if k = 54 ∨ k = 55 then a' k i else a k i := by
        funext k i
        by_cases q : k = 54 ∨ k = 55
        · rw [if_pos q]
        · rw [if_neg q]; exact ha k i (by omega) (by omega)
      have da2 : DA Y h2 s a' := by
        intro b' hb'
        by_cases eb : b' = j
        · subst eb
          refine ⟨p.1, p.2, ?_, dy2⟩
          simp only [ha 51 _ (show 51 ≠ 54 by omega) (show 51 ≠ 55 by omega)]
          exact ak2
        · exact DA.K own hf hb' (by simp; omega) (fun _ => rfl) ⟨Nat.le_refl _, by simp only [ha 58 _ (show 58 ≠ 54 by omega) (show 58 ≠ 55 by omega)]⟩ ⟨ha _ _ (by omega) (by omega), ha _ _ (by omega) (by omega), ha _ _ (by omega) (by omega), ha _ _ (by omega) (by omega), ha _ _ (by omega) (by omega), ha _ _ (by omega) (by omega), h54 _ eb, fun _ _ => ha _ _ (by omega) (by omega), fun d hd => h55 _ eb d hd⟩ (da b' hb')
      rw [ea] at da2 ⊢
      have own2 : OWN Y ow h2 s (fun k i => if k = 54 ∨ k = 55 then a' k i else a k i) := own.F hf
      exact ⟨⟨own2, (D0.K own hf (by simp) ⟨rfl, rfl, rfl⟩ ⟨rfl, rfl, rfl⟩ (fun _ _ => rfl) d0), (DF.K own hf (by simp) rfl rfl (fun _ => rfl) df), (DT.K own hf (by simp) rfl (Nat.le_refl _) (fun _ => rfl) dt), (DB.K own hf rfl db), ⟨DL1.K (n := s 27) own hf (by omega) (by simp) (by simp) (fun i hi => (And.intro (by omega) (by omega))) (fun hn => (And.intro (by omega) (by omega))) rfl rfl (fun _ _ => rfl) dl.1, DL1.K (n := s 31) own hf (by omega) (by simp) (by simp) (fun i hi => (And.intro (by omega) (by omega))) (fun hn => (And.intro (by omega) (by omega))) rfl rfl (fun _ _ => rfl) dl.2.1, DL1.K (n := s 36) own hf (by omega) (by simp) (by simp) (fun i hi => (And.intro (by omega) (by omega))) (fun hn => (And.intro (by omega) (by omega))) rfl rfl (fun _ _ => rfl) dl.2.2.1, DL1.K (n := s 46) own hf (by omega) (by simp) (by simp) (fun i hi => (And.intro (by omega) (by omega))) (fun hn => (And.intro (by omega) (by omega))) rfl rfl (fun _ _ => rfl) dl.2.2.2.1, DL1.K (n := s 57) own hf (by omega) (by simp) (by simp) (fun i hi => (And.intro (by omega) (by omega))) (fun hn => (And.intro (by omega) (by omega))) rfl rfl (fun _ _ => rfl) dl.2.2.2.2⟩, (fun p hp => DP.K own hf hp (by simp) ⟨fun _ => rfl, fun _ _ => rfl⟩ ⟨rfl, rfl, rfl, rfl, rfl⟩ (dp p hp)), (DG.K own wp hf (by simp) ⟨fun _ _ => rfl, fun _ _ => rfl, fun _ _ => rfl⟩ rfl (fun _ _ => ⟨rfl, rfl⟩) dg), (fun t ht => DX.K own hf ht (by simp) (fun _ => rfl) ⟨rfl, rfl, rfl, rfl, fun _ _ => rfl, fun _ _ => rfl, fun _ _ => rfl, fun _ _ => rfl, fun _ _ => rfl⟩ (dx t ht)), (da2), (fun i hi => DH.K own hf hi (by simp) (fun _ => rfl) ⟨rfl, rfl, rfl, rfl, fun _ _ => rfl⟩ (dh i hi)), (DU.K own hf (by simp) rfl rfl (fun _ => rfl) du), (DR.K own hf (by simp) rfl dr)⟩, hf⟩
    refine gAx (cut := []) okX8_stop 40 ?_
    simp only [axC_nil, axC_hit, axC_def, cutAt, lvLive, Option.isSome_none, Option.isSome_some, catS, lvGet, lvIns, lvSet1, lvSet2, gLit_0, gLit_1, lv_args, fv0, fv1, fv2, fv3, isI_s, isL_s, isRf_s, isRf_n, gtI_s, gtL_s, gtV_s, gFilter_nil, gFilter_cons, gL1, gL2, gL3, gL4, gL5, va_rf_s, va_rf_n, hK_sI, hK_sR, hK_sA, hK_sJ, hK_sO, hI_sI, hI_sR, hI_sA, hI_sJ, hI_sO, hR_sI, hR_sR, hR_sA, hR_sJ, hR_sO, hN_sI, hN_sR, hN_sA, hN_sJ, hN_sO, hA_sI, hA_sR, hA_sA, hA_sJ, hA_sO, hJ_sI, hJ_sR, hJ_sA, hJ_sJ, hJ_sO, hO_sI, hO_sR, hO_sA, hO_sJ, hO_sO, up3_eq, up2_eq, List.map_cons, List.map_nil, List.sum_cons, List.sum_nil, List.nil_append, List.cons_append, Option.toList_some, Option.toList_none, true_and, and_true, if_true, if_false, and_self, true_or, or_true, or_false, false_or, false_and, and_false, not_true_eq_false, not_false_eq_true, forall_const, reduceCtorEq, implies_true, List.contains_cons, List.contains_nil, Bool.or_false, Bool.false_or, Bool.or_true, Bool.true_or, Bool.and_true, Bool.true_and, Bool.and_false, Bool.false_and, Bool.not_true, Bool.not_false, BEq.rfl, Bool.false_eq_true, Bool.true_eq_false, eq_self, ↓reduceIte, Nat.reduceAdd, Nat.reduceEqDiff, Nat.reduceBEq, Nat.reduceLT, Nat.reduceLeDiff, Nat.reduceSub, Nat.reduceMul, Nat.reduceBNe, List.append_nil, Nat.zero_le, Nat.zero_add, Nat.zero_ne_one, Nat.one_ne_zero, false_implies, true_implies, not_false_eq_true, ne_eq, upd_e, updL_e, bI_zo, nI0z, nI1o, nI1z, nI0o, nI0q, nI1q, nm1_lt, nm1_ge, ax_aload_n tX8_stop_0, ax_iload_n tX8_stop_1, ax_callV1 tX8_stop_2, ax_astore_nR tX8_stop_5, ax_astore_nN tX8_stop_5, ax_aload_n tX8_stop_6, ax_ifnullR tX8_stop_7, ax_ifnullN tX8_stop_7, ax_aload_n tX8_stop_10, ax_getZ tX8_stop_11, ax_iload_n tX8_stop_14, ax_icmp_ne tX8_stop_15, ax_iconst tX8_stop_18, ax_iretZ tX8_stop_19, ax_iload_n tX8_stop_20, ax_if_eq tX8_stop_21, ax_aload_n tX8_stop_24, ax_aload_n tX8_stop_25, ax_getI tX8_stop_26, ax_iconst tX8_stop_29, ax_isub tX8_stop_30, ax_callV1 tX8_stop_31, ax_goto tX8_stop_34, ax_aload_n tX8_stop_37, ax_aload_n tX8_stop_38, ax_getI tX8_stop_39, ax_iconst tX8_stop_42, ax_isub tX8_stop_43, ax_callV1 tX8_stop_44, ax_aload_n tX8_stop_47, ax_iload_n tX8_stop_48, ax_putZ tX8_stop_49, ax_iconst tX8_stop_52, ax_iretZ tX8_stop_53, f_6, f_7, f_88, k0, v10, c0, i24]
    by_cases q : a 54 j = 0
    · simp only [q, eq_self, true_or, or_true, or_false, false_or, true_and, and_true, false_and, and_false, and_self, or_self, forall_const, not_true_eq_false, not_false_eq_true, false_implies, implies_true, true_implies, ↓reduceIte, if_true, if_false, Nat.not_lt_zero, Nat.zero_le, Nat.le_refl, Nat.lt_irrefl, ne_eq, reduceCtorEq, Bool.false_eq_true]
      by_cases y1 : y = 1
      · subst y1
        try simp (disch := omega) only [z0, o1, nI_add, pk_mul, nI_ltI, nI_leI, nI_eq, nI_clamp, vpn, pk_sub, Nat.add_sub_cancel, bI_0, bI_1, eq_self, true_or, or_true, or_false, false_or, true_and, and_true, false_and, and_false, and_self, or_self, forall_const, not_true_eq_false, not_false_eq_true, false_implies, implies_true, true_implies, ↓reduceIte, if_true, if_false, Nat.not_lt_zero, Nat.zero_le, Nat.le_refl, Nat.lt_irrefl, ne_eq, reduceCtorEq, Bool.false_eq_true]
        have e1 : nI (s 24) - nI 1 = sg (s 24) := rfl
        rw [e1]
        refine x_countThrough (d := d + 2) ak wpb.1 (fun h3 f3 a3 => ?_)
        have K := DAY.cnt (b := j) wpb.1 q 5000 (sd, w) (by simp only; omega) dy
        have k3 : hK h3 (Y 5 j 0) = 2 := a3.1.1
        refine gAx (cut := []) okX8_stop 40 ?_
        simp only [axC_nil, axC_hit, axC_def, cutAt, lvLive, Option.isSome_none, Option.isSome_some, catS, lvGet, lvIns, lvSet1, lvSet2, gLit_0, gLit_1, lv_args, fv0, fv1, fv2, fv3, isI_s, isL_s, isRf_s, isRf_n, gtI_s, gtL_s, gtV_s, gFilter_nil, gFilter_cons, gL1, gL2, gL3, gL4, gL5, va_rf_s, va_rf_n, hK_sI, hK_sR, hK_sA, hK_sJ, hK_sO, hI_sI, hI_sR, hI_sA, hI_sJ, hI_sO, hR_sI, hR_sR, hR_sA, hR_sJ, hR_sO, hN_sI, hN_sR, hN_sA, hN_sJ, hN_sO, hA_sI, hA_sR, hA_sA, hA_sJ, hA_sO, hJ_sI, hJ_sR, hJ_sA, hJ_sJ, hJ_sO, hO_sI, hO_sR, hO_sA, hO_sJ, hO_sO, up3_eq, up2_eq, List.map_cons, List.map_nil, List.sum_cons, List.sum_nil, List.nil_append, List.cons_append, Option.toList_some, Option.toList_none, true_and, and_true, if_true, if_false, and_self, true_or, or_true, or_false, false_or, false_and, and_false, not_true_eq_false, not_false_eq_true, forall_const, reduceCtorEq, implies_true, List.contains_cons, List.contains_nil, Bool.or_false, Bool.false_or, Bool.or_true, Bool.true_or, Bool.and_true, Bool.true_and, Bool.and_false, Bool.false_and, Bool.not_true, Bool.not_false, BEq.rfl, Bool.false_eq_true, Bool.true_eq_false, eq_self, ↓reduceIte, Nat.reduceAdd, Nat.reduceEqDiff, Nat.reduceBEq, Nat.reduceLT, Nat.reduceLeDiff, Nat.reduceSub, Nat.reduceMul, Nat.reduceBNe, List.append_nil, Nat.zero_le, Nat.zero_add, Nat.zero_ne_one, Nat.one_ne_zero, false_implies, true_implies, not_false_eq_true, ne_eq, upd_e, updL_e, bI_zo, nI0z, nI1o, nI1z, nI0o, nI0q, nI1q, nm1_lt, nm1_ge, ax_aload_n tX8_stop_0, ax_iload_n tX8_stop_1, ax_callV1 tX8_stop_2, ax_astore_nR tX8_stop_5, ax_astore_nN tX8_stop_5, ax_aload_n tX8_stop_6, ax_ifnullR tX8_stop_7, ax_ifnullN tX8_stop_7, ax_aload_n tX8_stop_10, ax_getZ tX8_stop_11, ax_iload_n tX8_stop_14, ax_icmp_ne tX8_stop_15, ax_iconst tX8_stop_18, ax_iretZ tX8_stop_19, ax_iload_n tX8_stop_20, ax_if_eq tX8_stop_21, ax_aload_n tX8_stop_24, ax_aload_n tX8_stop_25, ax_getI tX8_stop_26, ax_iconst tX8_stop_29, ax_isub tX8_stop_30, ax_callV1 tX8_stop_31, ax_goto tX8_stop_34, ax_aload_n tX8_stop_37, ax_aload_n tX8_stop_38, ax_getI tX8_stop_39, ax_iconst tX8_stop_42, ax_isub tX8_stop_43, ax_callV1 tX8_stop_44, ax_aload_n tX8_stop_47, ax_iload_n tX8_stop_48, ax_putZ tX8_stop_49, ax_iconst tX8_stop_52, ax_iretZ tX8_stop_53, f_6, f_7, f_88, k3]
        try simp (disch := omega) only [z0, o1, nI_add, pk_mul, nI_ltI, nI_leI, nI_eq, nI_clamp, vpn, pk_sub, Nat.add_sub_cancel, bI_0, bI_1, eq_self, true_or, or_true, or_false, false_or, true_and, and_true, false_and, and_false, and_self, or_self, forall_const, not_true_eq_false, not_false_eq_true, false_implies, implies_true, true_implies, ↓reduceIte, if_true, if_false, Nat.not_lt_zero, Nat.zero_le, Nat.le_refl, Nat.lt_irrefl, ne_eq, reduceCtorEq, Bool.false_eq_true]
        have F := fin h3 _ (up2 a 54 j (s 24 + 1)) (cntT (s 24) 5000 (sd, w)) rfl f3 a3 (fun k i h4 h5 => by rw [up2_eq, if_neg (fun q => h4 q.1)]) (fun i hi => by rw [up2_eq, if_neg (fun q => hi q.2)]) (fun i hi dd _ => by rw [up2_eq, if_neg (by omega)]) (by simp [up2_eq]) (K.1.stop K.2 (by simp [up2_eq]) (by simp [up2_eq]) (fun jj => by simp [up2_eq]))
        first
          | exact h1 j _ e hj q rfl F.1 F.2
          | exact ⟨by omega, h1 j _ e hj q rfl F.1 F.2⟩
      · obtain rfl : y = 0 := by omega
        try simp (disch := omega) only [z0, o1, nI_add, pk_mul, nI_ltI, nI_leI, nI_eq, nI_clamp, vpn, pk_sub, Nat.add_sub_cancel, bI_0, bI_1, eq_self, true_or, or_true, or_false, false_or, true_and, and_true, false_and, and_false, and_self, or_self, forall_const, not_true_eq_false, not_false_eq_true, false_implies, implies_true, true_implies, ↓reduceIte, if_true, if_false, Nat.not_lt_zero, Nat.zero_le, Nat.le_refl, Nat.lt_irrefl, ne_eq, reduceCtorEq, Bool.false_eq_true]
        refine h0 (fun i e2 hi => ?_)
        rw [e, nI_eq (by omega) (by omega)] at e2
        subst e2
        exact ⟨fun _ => rfl, fun _ => q⟩
    · simp only [q, eq_self, true_or, or_true, or_false, false_or, true_and, and_true, false_and, and_false, and_self, or_self, forall_const, not_true_eq_false, not_false_eq_true, false_implies, implies_true, true_implies, ↓reduceIte, if_true, if_false, Nat.not_lt_zero, Nat.zero_le, Nat.le_refl, Nat.lt_irrefl, ne_eq, reduceCtorEq, Bool.false_eq_true]
      by_cases y1 : y = 1
      · subst y1
        try simp (disch := omega) only [z0, o1, nI_add, pk_mul, nI_ltI, nI_leI, nI_eq, nI_clamp, vpn, pk_sub, Nat.add_sub_cancel, bI_0, bI_1, eq_self, true_or, or_true, or_false, false_or, true_and, and_true, false_and, and_false, and_self, or_self, forall_const, not_true_eq_false, not_false_eq_true, false_implies, implies_true, true_implies, ↓reduceIte, if_true, if_false, Nat.not_lt_zero, Nat.zero_le, Nat.le_refl, Nat.lt_irrefl, ne_eq, reduceCtorEq, Bool.false_eq_true]
        refine h0 (fun i e2 hi => ?_)
        rw [e, nI_eq (by omega) (by omega)] at e2
        subst e2
        exact ⟨fun c => absurd c q, fun c => absurd c (by omega)⟩
      · obtain rfl : y = 0 := by omega
        obtain ⟨u, hu⟩ : ∃ u, a 54 j = u + 1 := ⟨a 54 j - 1, by omega⟩
        try simp (disch := omega) only [z0, o1, nI_add, pk_mul, nI_ltI, nI_leI, nI_eq, nI_clamp, vpn, pk_sub, Nat.add_sub_cancel, bI_0, bI_1, eq_self, true_or, or_true, or_false, false_or, true_and, and_true, false_and, and_false, and_self, or_self, forall_const, not_true_eq_false, not_false_eq_true, false_implies, implies_true, true_implies, ↓reduceIte, if_true, if_false, Nat.not_lt_zero, Nat.zero_le, Nat.le_refl, Nat.lt_irrefl, ne_eq, reduceCtorEq, Bool.false_eq_true]
        have e1 : nI (s 24) - nI 1 = sg (s 24) := rfl
        rw [e1]
        refine x_skipThrough (d := d + 3) ak wpb.1 (fun h3 f3 a3 => ?_)
        have k3 : hK h3 (Y 5 j 0) = 2 := a3.1.1
        refine gAx (cut := []) okX8_stop 40 ?_
        simp only [axC_nil, axC_hit, axC_def, cutAt, lvLive, Option.isSome_none, Option.isSome_some, catS, lvGet, lvIns, lvSet1, lvSet2, gLit_0, gLit_1, lv_args, fv0, fv1, fv2, fv3, isI_s, isL_s, isRf_s, isRf_n, gtI_s, gtL_s, gtV_s, gFilter_nil, gFilter_cons, gL1, gL2, gL3, gL4, gL5, va_rf_s, va_rf_n, hK_sI, hK_sR, hK_sA, hK_sJ, hK_sO, hI_sI, hI_sR, hI_sA, hI_sJ, hI_sO, hR_sI, hR_sR, hR_sA, hR_sJ, hR_sO, hN_sI, hN_sR, hN_sA, hN_sJ, hN_sO, hA_sI, hA_sR, hA_sA, hA_sJ, hA_sO, hJ_sI, hJ_sR, hJ_sA, hJ_sJ, hJ_sO, hO_sI, hO_sR, hO_sA, hO_sJ, hO_sO, up3_eq, up2_eq, List.map_cons, List.map_nil, List.sum_cons, List.sum_nil, List.nil_append, List.cons_append, Option.toList_some, Option.toList_none, true_and, and_true, if_true, if_false, and_self, true_or, or_true, or_false, false_or, false_and, and_false, not_true_eq_false, not_false_eq_true, forall_const, reduceCtorEq, implies_true, List.contains_cons, List.contains_nil, Bool.or_false, Bool.false_or, Bool.or_true, Bool.true_or, Bool.and_true, Bool.true_and, Bool.and_false, Bool.false_and, Bool.not_true, Bool.not_false, BEq.rfl, Bool.false_eq_true, Bool.true_eq_false, eq_self, ↓reduceIte, Nat.reduceAdd, Nat.reduceEqDiff, Nat.reduceBEq, Nat.reduceLT, Nat.reduceLeDiff, Nat.reduceSub, Nat.reduceMul, Nat.reduceBNe, List.append_nil, Nat.zero_le, Nat.zero_add, Nat.zero_ne_one, Nat.one_ne_zero, false_implies, true_implies, not_false_eq_true, ne_eq, upd_e, updL_e, bI_zo, nI0z, nI1o, nI1z, nI0o, nI0q, nI1q, nm1_lt, nm1_ge, ax_aload_n tX8_stop_0, ax_iload_n tX8_stop_1, ax_callV1 tX8_stop_2, ax_astore_nR tX8_stop_5, ax_astore_nN tX8_stop_5, ax_aload_n tX8_stop_6, ax_ifnullR tX8_stop_7, ax_ifnullN tX8_stop_7, ax_aload_n tX8_stop_10, ax_getZ tX8_stop_11, ax_iload_n tX8_stop_14, ax_icmp_ne tX8_stop_15, ax_iconst tX8_stop_18, ax_iretZ tX8_stop_19, ax_iload_n tX8_stop_20, ax_if_eq tX8_stop_21, ax_aload_n tX8_stop_24, ax_aload_n tX8_stop_25, ax_getI tX8_stop_26, ax_iconst tX8_stop_29, ax_isub tX8_stop_30, ax_callV1 tX8_stop_31, ax_goto tX8_stop_34, ax_aload_n tX8_stop_37, ax_aload_n tX8_stop_38, ax_getI tX8_stop_39, ax_iconst tX8_stop_42, ax_isub tX8_stop_43, ax_callV1 tX8_stop_44, ax_aload_n tX8_stop_47, ax_iload_n tX8_stop_48, ax_putZ tX8_stop_49, ax_iconst tX8_stop_52, ax_iretZ tX8_stop_53, f_6, f_7, f_88, k3]
        try simp (disch := omega) only [z0, o1, nI_add, pk_mul, nI_ltI, nI_leI, nI_eq, nI_clamp, vpn, pk_sub, Nat.add_sub_cancel, bI_0, bI_1, eq_self, true_or, or_true, or_false, false_or, true_and, and_true, false_and, and_false, and_self, or_self, forall_const, not_true_eq_false, not_false_eq_true, false_implies, implies_true, true_implies, ↓reduceIte, if_true, if_false, Nat.not_lt_zero, Nat.zero_le, Nat.le_refl, Nat.lt_irrefl, ne_eq, reduceCtorEq, Bool.false_eq_true]
        have K := DAY.go (a' := up2 (stU a j u (s 24)) 54 j 0) wpb.1 dy hu (by simp [up2_eq, stU]) (by simp [up2_eq]) (fun dd hdd => by
          have e3 : (5000 * j + u ≤ 5000 * j + dd ∧ 5000 * j + dd < 5000 * j + s 24) ↔ (u ≤ dd ∧ dd < s 24) := by omega
          show (if 55 = 54 ∧ _ then _ else if 55 = 55 ∧ _ then 1 else _) = _
          simp [e3])
        have F := fin h3 _ (up2 (stU a j u (s 24)) 54 j 0) (skpT (s 24) (sd, w)) rfl f3 a3 (fun k i h4 h5 => by rw [up2_eq, if_neg (fun q => h4 q.1)]; unfold stU; rw [if_neg (fun q => h5 q.1)]) (fun i hi => by rw [up2_eq, if_neg (fun q => hi q.2)]; unfold stU; rw [if_neg (by omega)]) (fun i hi dd hdd => by rw [up2_eq, if_neg (by omega)]; unfold stU; rw [if_neg (by omega)]) (by simp [up2_eq]) K
        first
          | exact h2 j u _ e hj hu rfl F.1 F.2
          | exact ⟨by omega, h2 j u _ e hj hu rfl F.1 F.2⟩
  · refine gAx (cut := []) okX8_stop 40 ?_
    simp only [axC_nil, axC_hit, axC_def, cutAt, lvLive, Option.isSome_none, Option.isSome_some, catS, lvGet, lvIns, lvSet1, lvSet2, gLit_0, gLit_1, lv_args, fv0, fv1, fv2, fv3, isI_s, isL_s, isRf_s, isRf_n, gtI_s, gtL_s, gtV_s, gFilter_nil, gFilter_cons, gL1, gL2, gL3, gL4, gL5, va_rf_s, va_rf_n, hK_sI, hK_sR, hK_sA, hK_sJ, hK_sO, hI_sI, hI_sR, hI_sA, hI_sJ, hI_sO, hR_sI, hR_sR, hR_sA, hR_sJ, hR_sO, hN_sI, hN_sR, hN_sA, hN_sJ, hN_sO, hA_sI, hA_sR, hA_sA, hA_sJ, hA_sO, hJ_sI, hJ_sR, hJ_sA, hJ_sJ, hJ_sO, hO_sI, hO_sR, hO_sA, hO_sJ, hO_sO, up3_eq, up2_eq, List.map_cons, List.map_nil, List.sum_cons, List.sum_nil, List.nil_append, List.cons_append, Option.toList_some, Option.toList_none, true_and, and_true, if_true, if_false, and_self, true_or, or_true, or_false, false_or, false_and, and_false, not_true_eq_false, not_false_eq_true, forall_const, reduceCtorEq, implies_true, List.contains_cons, List.contains_nil, Bool.or_false, Bool.false_or, Bool.or_true, Bool.true_or, Bool.and_true, Bool.true_and, Bool.and_false, Bool.false_and, Bool.not_true, Bool.not_false, BEq.rfl, Bool.false_eq_true, Bool.true_eq_false, eq_self, ↓reduceIte, Nat.reduceAdd, Nat.reduceEqDiff, Nat.reduceBEq, Nat.reduceLT, Nat.reduceLeDiff, Nat.reduceSub, Nat.reduceMul, Nat.reduceBNe, List.append_nil, Nat.zero_le, Nat.zero_add, Nat.zero_ne_one, Nat.one_ne_zero, false_implies, true_implies, not_false_eq_true, ne_eq, upd_e, updL_e, bI_zo, nI0z, nI1o, nI1z, nI0o, nI0q, nI1q, nm1_lt, nm1_ge, ax_aload_n tX8_stop_0, ax_iload_n tX8_stop_1, ax_callV1 tX8_stop_2, ax_astore_nR tX8_stop_5, ax_astore_nN tX8_stop_5, ax_aload_n tX8_stop_6, ax_ifnullR tX8_stop_7, ax_ifnullN tX8_stop_7, ax_aload_n tX8_stop_10, ax_getZ tX8_stop_11, ax_iload_n tX8_stop_14, ax_icmp_ne tX8_stop_15, ax_iconst tX8_stop_18, ax_iretZ tX8_stop_19, ax_iload_n tX8_stop_20, ax_if_eq tX8_stop_21, ax_aload_n tX8_stop_24, ax_aload_n tX8_stop_25, ax_getI tX8_stop_26, ax_iconst tX8_stop_29, ax_isub tX8_stop_30, ax_callV1 tX8_stop_31, ax_goto tX8_stop_34, ax_aload_n tX8_stop_37, ax_aload_n tX8_stop_38, ax_getI tX8_stop_39, ax_iconst tX8_stop_42, ax_isub tX8_stop_43, ax_callV1 tX8_stop_44, ax_aload_n tX8_stop_47, ax_iload_n tX8_stop_48, ax_putZ tX8_stop_49, ax_iconst tX8_stop_52, ax_iretZ tX8_stop_53, f_6, f_7, f_88]
    exact h0 (fun i e hi => absurd e (c i hi))
end X8C
