/-! THE DESK: rules -/
section FLTS
variable {C P : Nat → Nat} {G : Nat → Prop} {part : Nat → rdR}
theorem rdSL_F (hp : ∀ i F, part i = .inl F → G F) : ∀ f i c F, rdSL C part f i c = .inl F → G F := by
  intro f
  induction f with
  | zero => intro i c F h; unfold rdSL at h; cases h
  | succ f ih =>
    intro i c F h
    unfold rdSL at h
    by_cases q : C i = 14 ∨ C i = 15
    · rw [if_pos q] at h
      have hp1 := hp (i + 1)
      generalize part (i + 1) = r at h hp1
      rcases r with e | ⟨j, c2⟩
      · cases h; exact hp1 _ rfl
      · exact ih _ _ _ h
    · rw [if_neg q] at h; cases h
theorem rdS_F (hp : ∀ i F, part i = .inl F → G F) : ∀ i F, rdS C part i = .inl F → G F := by
  intro i F h
  unfold rdS at h
  have hp1 := hp i
  generalize part i = r at h hp1
  rcases r with e | ⟨j, c2⟩
  · cases h; exact hp1 _ rfl
  · exact rdSL_F hp _ _ _ _ h
theorem rdT_F (hp : ∀ i F, part i = .inl F → G F) : ∀ i F, rdT C part i = .inl F → G F := by
  intro i F h
  unfold rdT at h
  have hp1 := rdS_F (C := C) hp i
  generalize rdS C part i = r at h hp1
  rcases r with e | ⟨j, c2⟩
  · cases h; exact hp1 _ rfl
  · simp only at h
    by_cases q : C j = 12 ∨ C j = 13
    · rw [if_pos q] at h
      have hp2 := rdS_F (C := C) hp (j + 1)
      generalize rdS C part (j + 1) = r at h hp2
      rcases r with e | ⟨k, c3⟩
      · cases h; exact hp2 _ rfl
      · cases h
    · rw [if_neg q] at h; cases h
theorem rdEL_F (hp : ∀ i F, part i = .inl F → G F) : ∀ f i c F, rdEL C part f i c = .inl F → G F := by
  intro f
  induction f with
  | zero => intro i c F h; unfold rdEL at h; cases h
  | succ f ih =>
    intro i c F h
    unfold rdEL at h
    by_cases q : C i = 3
    · rw [if_pos q] at h
      have hp1 := rdT_F (C := C) hp (i + 1)
      generalize rdT C part (i + 1) = r at h hp1
      rcases r with e | ⟨j, c2⟩
      · cases h; exact hp1 _ rfl
      · exact ih _ _ _ h
    · rw [if_neg q] at h; cases h
theorem rdE_F (hp : ∀ i F, part i = .inl F → G F) : ∀ i F, rdE C part i = .inl F → G F := by
  intro i F h
  unfold rdE at h
  have hp1 := rdT_F (C := C) hp i
  generalize rdT C part i = r at h hp1
  rcases r with e | ⟨j, c2⟩
  · cases h; exact hp1 _ rfl
  · exact rdEL_F hp _ _ _ _ h
theorem rdP_F (h5 : ∀ i, G (5 + 16 * P i)) (h1 : ∀ i, G (1 + 16 * P i)) : ∀ l i F, rdP C P l i = .inl F → G F := by
  intro l
  induction l with
  | zero =>
    intro i F h
    unfold rdP at h
    split at h <;> cases h
    · exact h5 i
    · exact h1 i
  | succ l ih =>
    intro i F h
    unfold rdP at h
    by_cases q : isOpd (C i)
    · rw [if_pos q] at h; cases h
    · rw [if_neg q] at h
      by_cases q9 : C i = 9
      · rw [if_pos q9] at h
        have hp1 := rdE_F (C := C) ih (i + 1)
        generalize rdE C (rdP C P l) (i + 1) = r at h hp1
        rcases r with e | ⟨j, c2⟩
        · cases h; exact hp1 _ rfl
        · simp only at h
          split at h <;> cases h
          exact h1 j
      · rw [if_neg q9] at h; cases h; exact h1 i
theorem rdA_F (h5 : ∀ i, G (5 + 16 * P i)) (h1 : ∀ i, G (1 + 16 * P i)) (h4 : ∀ i, G (4 + 16 * P i)) : ∀ f i ln F, rdA C P f i ln = .inl F → G F := by
  have hL : ∀ n i F, rdL C P n i = .inl F → G F := by
    intro n i F h
    unfold rdL at h
    split at h
    · cases h; exact h1 i
    · split at h
      · cases h; exact h5 i
      · split at h
        · cases h; exact h1 _
        · split at h
          · cases h; exact h4 _
          · split at h
            · cases h; exact h1 _
            · have hp1 := rdE_F (C := C) (rdP_F (C := C) h5 h1 5) (i + 3)
              generalize rdE C (rdP C P 5) (i + 3) = r at h hp1
              rcases r with e | ⟨j, c2⟩
              · cases h; exact hp1 _ rfl
              · simp only at h
                split at h <;> cases h
                exact h1 j
  intro f
  induction f with
  | zero => intro i ln F h; unfold rdA at h; cases h
  | succ f ih =>
    intro i ln F h
    unfold rdA at h
    split at h
    · cases h
    · have hp1 := hL ln.length i
      generalize rdL C P ln.length i = r at h hp1
      rcases r with e | ⟨j, g, c2⟩
      · cases h; exact hp1 _ rfl
      · exact ih _ _ _ h
end FLTS
theorem FRA.frx {ow : Nat → gTag} {T : List gTag} {h h1 : gHp} {I R : List (Nat × Nat × Nat)} {A : List (Nat × Nat)} {O : List Nat} (p : FRA I R A O h h1) (hT : ∀ y, y ∈ tch I R A O → hK h y = 0 ∨ ow y ∈ T) : FRO ow T h h1 := by
  have hT' : ∀ b, hK h b ≠ 0 → ¬ ow b ∈ T → ¬ b ∈ tch I R A O := fun b hb hn hm => by
    rcases hT b hm with q | q
    · exact hb q
    · exact hn q
  refine ⟨p.1, fun b hb hn => ⟨(p.1 b hb).1, (p.1 b hb).2, fun c k => p.2.1 c k b hb (fun e => hT' b hb hn ?_), fun c k => p.2.2.1 c k b hb (fun e => hT' b hb hn ?_), fun t => p.2.2.2.1 t b hb (fun e => hT' b hb hn ?_), fun t => p.2.2.2.2.1 t b hb, p.2.2.2.2.2 b hb (fun e => hT' b hb hn ?_)⟩⟩
  · exact List.mem_append.mpr (Or.inl (List.mem_map.mpr ⟨_, e, rfl⟩))
  · exact List.mem_append.mpr (Or.inr (List.mem_append.mpr (Or.inl (List.mem_map.mpr ⟨_, e, rfl⟩))))
  · exact List.mem_append.mpr (Or.inr (List.mem_append.mpr (Or.inr (List.mem_append.mpr (Or.inl (List.mem_map.mpr ⟨_, e, rfl⟩))))))
  · exact List.mem_append.mpr (Or.inr (List.mem_append.mpr (Or.inr (List.mem_append.mpr (Or.inr e)))))
theorem gn_0 : gNf.getD 0 0 = 3 := by decide
theorem gn_1 : gNf.getD 1 0 = 12 := by decide
theorem gn_2 : gNf.getD 2 0 = 5 := by decide
theorem gn_3 : gNf.getD 3 0 = 3 := by decide
theorem gn_4 : gNf.getD 4 0 = 6 := by decide
theorem gn_5 : gNf.getD 5 0 = 5 := by decide
theorem gn_6 : gNf.getD 6 0 = 6 := by decide
theorem gn_7 : gNf.getD 7 0 = 4 := by decide
theorem gn_8 : gNf.getD 8 0 = 9 := by decide
abbrev ruS (v : Nat) : List gTag := [(7, 0, 0), (7, 0, 2), (7, 0, 3), (8, 1 - v, 0), (8, 1 - v, 1), (8, 1 - v, 2), (8, 1 - v, 3)]
section X8I
variable {B : gB} {h : gHp} {d E v : Nat} {Y : gYm} {ow : Nat → gTag} {rl : List (Nat × List (Nat × Nat))} {s : Nat → Nat} {a : Nat → Nat → Nat} {Q : Option Value → gHp → Prop} {sK sV : Nat → Nat}
set_option maxRecDepth 100000 in
set_option maxHeartbeats 1600000 in
theorem DS.swp {r2 : List (Nat × List (Nat × Nat))} (hd : DS E Y ow v rl h s a) (wp : WP s a) (u4 : RUO h (Y 8 (1 - v)) r2 []) : DS E Y ow (1 - v) r2 (sR (sR h 9 12 (Y 0 0 0) (some (Y 8 (1 - v) 0))) 9 13 (Y 0 0 0) (some (Y 8 v 0))) s a ∧ FRO ow [(0, 0, 0)] h (sR (sR h 9 12 (Y 0 0 0) (some (Y 8 (1 - v) 0))) 9 13 (Y 0 0 0) (some (Y 8 v 0))) := by
  obtain ⟨own, d0, df, dt, db, dl, dp, dg, dx, da, dh, du, dr⟩ := id hd
  obtain ⟨c0, i24, i25, i44, ⟨r1, r3, r5, r6, r7, r8, r9⟩, ⟨r11, r12, r13⟩, hm, hm1, hm2, hm3⟩ := id d0
  have l5 := dl.1.1
  have l6 := dl.2.1.1
  have l7 := dl.2.2.1.1
  have l8 := dl.2.2.2.1.1
  have l9 := dl.2.2.2.2.1
  have wpb := wp.1
  obtain ⟨v1, ru, ru'⟩ := id dr
  have q1 : 1 - v ≤ 1 := by omega
  have o0 := (own 0 0 0 (And.intro (by omega) (by omega))).2
  generalize hh : sR (sR h 9 12 (Y 0 0 0) (some (Y 8 (1 - v) 0))) 9 13 (Y 0 0 0) (some (Y 8 v 0)) = h5
  have hf : FRO ow [(0, 0, 0)] h h5 := by rw [← hh]; exact ((FRO.rf h).sR (Or.inl (by simp [o0]))).sR (Or.inl (by simp [o0]))
  have own5 : OWN Y ow h5 s a := own.F hf
  have d05 : D0 Y (1 - v) h5 s a := by
    rw [← hh]
    refine ⟨c0, i24, i25, i44, ⟨?_, ?_, ?_, ?_, ?_, ?_, ?_⟩, ⟨?_, ?_, ?_⟩, hm, hm1, hm2, hm3⟩
    all_goals (first | (simp [hR_sR, up3_eq]; done) | (simp [hR_sR, up3_eq]; assumption) | (rw [show 1 - (1 - v) = v by omega]; simp [hR_sR, up3_eq]))
  have u5 : RUO h5 (Y 8 (1 - v)) r2 [] := RU.K own hf q1 (fun k hk => by simp) rfl u4
  have u6 : RUO h5 (Y 8 v) rl [] := RU.K own hf v1 (fun k hk => by simp) rfl dr.2.1
  have dr5 : DR Y (1 - v) r2 h5 := ⟨q1, u5, by rw [show 1 - (1 - v) = v by omega]; exact u6.S⟩
  exact ⟨⟨own5, (d05), (DF.K own hf (by simp) rfl rfl (fun _ => rfl) df), (DT.K own hf (by simp) rfl (Nat.le_refl _) (fun _ => rfl) dt), (DB.K own hf rfl db), ⟨DL1.K (n := s 27) own hf (by omega) (by simp) (by simp) (fun i hi => (And.intro (by omega) (by omega))) (fun hn => (And.intro (by omega) (by omega))) rfl rfl (fun _ _ => rfl) dl.1, DL1.K (n := s 31) own hf (by omega) (by simp) (by simp) (fun i hi => (And.intro (by omega) (by omega))) (fun hn => (And.intro (by omega) (by omega))) rfl rfl (fun _ _ => rfl) dl.2.1, DL1.K (n := s 36) own hf (by omega) (by simp) (by simp) (fun i hi => (And.intro (by omega) (by omega))) (fun hn => (And.intro (by omega) (by omega))) rfl rfl (fun _ _ => rfl) dl.2.2.1, DL1.K (n := s 46) own hf (by omega) (by simp) (by simp) (fun i hi => (And.intro (by omega) (by omega))) (fun hn => (And.intro (by omega) (by omega))) rfl rfl (fun _ _ => rfl) dl.2.2.2.1, DL1.K (n := s 57) own hf (by omega) (by simp) (by simp) (fun i hi => (And.intro (by omega) (by omega))) (fun hn => (And.intro (by omega) (by omega))) rfl rfl (fun _ _ => rfl) dl.2.2.2.2⟩, (fun p hp => DP.K own hf hp (by simp) ⟨fun _ => rfl, fun _ _ => rfl⟩ ⟨rfl, rfl, rfl, rfl, rfl⟩ (dp p hp)), (DG.K own wp hf (by simp) ⟨fun _ _ => rfl, fun _ _ => rfl, fun _ _ => rfl⟩ rfl (fun _ _ => ⟨rfl, rfl⟩) dg), (fun t ht => DX.K own hf ht (by simp) (fun _ => rfl) ⟨rfl, rfl, rfl, rfl, fun _ _ => rfl, fun _ _ => rfl, fun _ _ => rfl, fun _ _ => rfl, fun _ _ => rfl⟩ (dx t ht)), (fun b hb => DA.K own hf hb (by simp) (fun _ => rfl) ⟨Nat.le_refl _, rfl⟩ ⟨rfl, rfl, rfl, rfl, rfl, rfl, rfl, fun _ _ => rfl, fun _ _ => rfl⟩ (da b hb)), (fun i hi => DH.K own hf hi (by simp) (fun _ => rfl) ⟨rfl, rfl, rfl, rfl, fun _ _ => rfl⟩ (dh i hi)), (DU.K own hf (by simp) rfl rfl (fun _ => rfl) du), (dr5)⟩, hf⟩
set_option maxRecDepth 100000 in
set_option maxHeartbeats 3200000 in
/-- behind the reader: the tape is wiped -/
theorem x_rules_w (hd : DS E Y ow v rl h s a) (wp : WP s a) {h3 : gHp} {F : Nat} (hf3 : FRO ow (ruS v) h h3) (t3 : TAP h3 (Y 7 0) (s 2) (a 1)) (u3 : RUS h3 (Y 8 (1 - v))) (hF : F < 2 ^ 31) (h1 : F ≠ 0 → ∀ h', DS E Y ow v rl h' (va_up s 2 0) a → FRO ow ((0, 0, 0) :: ruS v) h h' → Q (some (.int (nI F))) h') (h0 : F = 0 → ∀ h', FRM [(7, 1, Y 7 0 0)] [] h3 h' → DS E Y ow v rl h' (va_up s 2 0) a → FRO ow (ruS v) h h' → gG B mX8_rules 30 0 0 30 [(0, .ref (Y 0 0 0)), (1, .int (nI 0))] [] h' Q) : gG B mX8_rules 30 0 0 18 [(0, .ref (Y 0 0 0))] [.int (nI F)] h3 Q := by
  obtain ⟨own, d0, df, dt, db, dl, dp, dg, dx, da, dh, du, dr⟩ := id hd
  obtain ⟨c0, i24, i25, i44, ⟨r1, r3, r5, r6, r7, r8, r9⟩, ⟨r11, r12, r13⟩, hm, hm1, hm2, hm3⟩ := id d0
  have l5 := dl.1.1
  have l6 := dl.2.1.1
  have l7 := dl.2.2.1.1
  have l8 := dl.2.2.2.1.1
  have l9 := dl.2.2.2.2.1
  have wpb := wp.1
  obtain ⟨v1, ru, ru'⟩ := id dr
  have m0 := own.sam hf3 (r := 0) (i := 0) (k := 0) (And.intro (by omega) (by omega)) (by simp)
  have c03 : hK h3 (Y 0 0 0) = 10 := by rw [m0.1]; exact c0
  have r113 : hR h3 9 11 (Y 0 0 0) = some (Y 7 0 0) := by rw [m0.2.2.2.1]; exact r11
  have kt3 := t3.1.1
  have o7 := (own 7 0 0 (And.intro (by omega) (by omega))).2
  refine gAx (cut := []) okX8_rules 40 ?_
  simp only [axC_nil, axC_hit, axC_def, cutAt, lvLive, Option.isSome_none, Option.isSome_some, catS, lvGet, lvIns, lvSet1, lvSet2, gLit_0, gLit_1, lv_args, fv0, fv1, fv2, fv3, isI_s, isL_s, isRf_s, isRf_n, gtI_s, gtL_s, gtV_s, gFilter_nil, gFilter_cons, gL1, gL2, gL3, gL4, gL5, va_rf_s, va_rf_n, hK_sI, hK_sR, hK_sA, hK_sJ, hK_sO, hI_sI, hI_sR, hI_sA, hI_sJ, hI_sO, hR_sI, hR_sR, hR_sA, hR_sJ, hR_sO, hN_sI, hN_sR, hN_sA, hN_sJ, hN_sO, hA_sI, hA_sR, hA_sA, hA_sJ, hA_sO, hJ_sI, hJ_sR, hJ_sA, hJ_sJ, hJ_sO, hO_sI, hO_sR, hO_sA, hO_sJ, hO_sO, up3_eq, up2_eq, List.map_cons, List.map_nil, List.sum_cons, List.sum_nil, List.nil_append, List.cons_append, Option.toList_some, Option.toList_none, true_and, and_true, if_true, if_false, and_self, true_or, or_true, or_false, false_or, false_and, and_false, not_true_eq_false, not_false_eq_true, forall_const, reduceCtorEq, implies_true, List.contains_cons, List.contains_nil, Bool.or_false, Bool.false_or, Bool.or_true, Bool.true_or, Bool.and_true, Bool.true_and, Bool.and_false, Bool.false_and, Bool.not_true, Bool.not_false, BEq.rfl, Bool.false_eq_true, Bool.true_eq_false, eq_self, ↓reduceIte, Nat.reduceAdd, Nat.reduceEqDiff, Nat.reduceBEq, Nat.reduceLT, Nat.reduceLeDiff, Nat.reduceSub, Nat.reduceMul, Nat.reduceBNe, List.append_nil, Nat.zero_le, Nat.zero_add, Nat.zero_ne_one, Nat.one_ne_zero, false_implies, true_implies, not_false_eq_true, ne_eq, upd_e, updL_e, bI_zo, nI0z, nI1o, nI1z, nI0o, nI0q, nI1q, nm1_lt, nm1_ge, ax_new tX8_rules_0, ax_dup tX8_rules_3, ax_aload_n tX8_rules_4, ax_getR tX8_rules_5, ax_aload_n tX8_rules_8, ax_getR tX8_rules_9, ax_callI2 rfl rfl tX8_rules_12, ax_callV0 tX8_rules_15, ax_istore_n tX8_rules_18, ax_aload_n tX8_rules_19, ax_getR tX8_rules_20, ax_callV0 tX8_rules_23, ax_iload_n tX8_rules_26, ax_if_ne tX8_rules_27, ax_aload_n tX8_rules_30, ax_getR tX8_rules_31, ax_astore_nR tX8_rules_34, ax_astore_nN tX8_rules_34, ax_aload_n tX8_rules_35, ax_aload_n tX8_rules_36, ax_getR tX8_rules_37, ax_putR tX8_rules_40, ax_putN tX8_rules_40, ax_aload_n tX8_rules_43, ax_aload_n tX8_rules_44, ax_putR tX8_rules_45, ax_putN tX8_rules_45, ax_iload_n tX8_rules_48, ax_iretI tX8_rules_49, f_14, f_15, f_36, c03, r113, kt3]
  refine x_wipe (d := 28) t3 (fun h4 f4 t4 => ?_)
  have hf : FRO ow (ruS v) h h4 := hf3.t2 (f4.fro (by simp [o7]))
  have own2 : OWN Y ow h4 (va_up s 2 0) a := own.F hf
  have du2 : DU Y h4 (va_up s 2 0) a := t4
  have dr2 : DR Y v rl h4 := ⟨v1, RU.K own hf v1 (fun k hk => by simp; omega) rfl ru, by
    unfold RUS at u3 ⊢
    rw [f4.1, f4.2.1, f4.2.2.1]
    exact u3⟩
  have d4 : DS E Y ow v rl h4 (va_up s 2 0) a := ⟨own2, (D0.K own hf (by simp) ⟨rfl, rfl, rfl⟩ ⟨rfl, rfl, rfl⟩ (fun _ _ => rfl) d0), (DF.K own hf (by simp) rfl rfl (fun _ => rfl) df), (DT.K own hf (by simp) rfl (Nat.le_refl _) (fun _ => rfl) dt), (DB.K own hf rfl db), ⟨DL1.K (n := s 27) own hf (by omega) (by simp) (by simp) (fun i hi => (And.intro (by omega) (by omega))) (fun hn => (And.intro (by omega) (by omega))) rfl rfl (fun _ _ => rfl) dl.1, DL1.K (n := s 31) own hf (by omega) (by simp) (by simp) (fun i hi => (And.intro (by omega) (by omega))) (fun hn => (And.intro (by omega) (by omega))) rfl rfl (fun _ _ => rfl) dl.2.1, DL1.K (n := s 36) own hf (by omega) (by simp) (by simp) (fun i hi => (And.intro (by omega) (by omega))) (fun hn => (And.intro (by omega) (by omega))) rfl rfl (fun _ _ => rfl) dl.2.2.1, DL1.K (n := s 46) own hf (by omega) (by simp) (by simp) (fun i hi => (And.intro (by omega) (by omega))) (fun hn => (And.intro (by omega) (by omega))) rfl rfl (fun _ _ => rfl) dl.2.2.2.1, DL1.K (n := s 57) own hf (by omega) (by simp) (by simp) (fun i hi => (And.intro (by omega) (by omega))) (fun hn => (And.intro (by omega) (by omega))) rfl rfl (fun _ _ => rfl) dl.2.2.2.2⟩, (fun p hp => DP.K own hf hp (by simp) ⟨fun _ => rfl, fun _ _ => rfl⟩ ⟨rfl, rfl, rfl, rfl, rfl⟩ (dp p hp)), (DG.K own wp hf (by simp) ⟨fun _ _ => rfl, fun _ _ => rfl, fun _ _ => rfl⟩ rfl (fun _ _ => ⟨rfl, rfl⟩) dg), (fun t ht => DX.K own hf ht (by simp) (fun _ => rfl) ⟨rfl, rfl, rfl, rfl, fun _ _ => rfl, fun _ _ => rfl, fun _ _ => rfl, fun _ _ => rfl, fun _ _ => rfl⟩ (dx t ht)), (fun b hb => DA.K own hf hb (by simp) (fun _ => rfl) ⟨Nat.le_refl _, rfl⟩ ⟨rfl, rfl, rfl, rfl, rfl, rfl, rfl, fun _ _ => rfl, fun _ _ => rfl⟩ (da b hb)), (fun i hi => DH.K own hf hi (by simp) (fun _ => rfl) ⟨rfl, rfl, rfl, rfl, fun _ _ => rfl⟩ (dh i hi)), (du2), (dr2)⟩
  have K0 := fun e => h0 e h4 f4 d4 hf
  refine gAx (cut := [(30, [0, 1])]) okX8_rules 40 ?_
  simp only [axC_nil, axC_hit, axC_def, cutAt, lvLive, Option.isSome_none, Option.isSome_some, catS, lvGet, lvIns, lvSet1, lvSet2, gLit_0, gLit_1, lv_args, fv0, fv1, fv2, fv3, isI_s, isL_s, isRf_s, isRf_n, gtI_s, gtL_s, gtV_s, gFilter_nil, gFilter_cons, gL1, gL2, gL3, gL4, gL5, va_rf_s, va_rf_n, hK_sI, hK_sR, hK_sA, hK_sJ, hK_sO, hI_sI, hI_sR, hI_sA, hI_sJ, hI_sO, hR_sI, hR_sR, hR_sA, hR_sJ, hR_sO, hN_sI, hN_sR, hN_sA, hN_sJ, hN_sO, hA_sI, hA_sR, hA_sA, hA_sJ, hA_sO, hJ_sI, hJ_sR, hJ_sA, hJ_sJ, hJ_sO, hO_sI, hO_sR, hO_sA, hO_sJ, hO_sO, up3_eq, up2_eq, List.map_cons, List.map_nil, List.sum_cons, List.sum_nil, List.nil_append, List.cons_append, Option.toList_some, Option.toList_none, true_and, and_true, if_true, if_false, and_self, true_or, or_true, or_false, false_or, false_and, and_false, not_true_eq_false, not_false_eq_true, forall_const, reduceCtorEq, implies_true, List.contains_cons, List.contains_nil, Bool.or_false, Bool.false_or, Bool.or_true, Bool.true_or, Bool.and_true, Bool.true_and, Bool.and_false, Bool.false_and, Bool.not_true, Bool.not_false, BEq.rfl, Bool.false_eq_true, Bool.true_eq_false, eq_self, ↓reduceIte, Nat.reduceAdd, Nat.reduceEqDiff, Nat.reduceBEq, Nat.reduceLT, Nat.reduceLeDiff, Nat.reduceSub, Nat.reduceMul, Nat.reduceBNe, List.append_nil, Nat.zero_le, Nat.zero_add, Nat.zero_ne_one, Nat.one_ne_zero, false_implies, true_implies, not_false_eq_true, ne_eq, upd_e, updL_e, bI_zo, nI0z, nI1o, nI1z, nI0o, nI0q, nI1q, nm1_lt, nm1_ge, ax_new tX8_rules_0, ax_dup tX8_rules_3, ax_aload_n tX8_rules_4, ax_getR tX8_rules_5, ax_aload_n tX8_rules_8, ax_getR tX8_rules_9, ax_callI2 rfl rfl tX8_rules_12, ax_callV0 tX8_rules_15, ax_istore_n tX8_rules_18, ax_aload_n tX8_rules_19, ax_getR tX8_rules_20, ax_callV0 tX8_rules_23, ax_iload_n tX8_rules_26, ax_if_ne tX8_rules_27, ax_aload_n tX8_rules_30, ax_getR tX8_rules_31, ax_astore_nR tX8_rules_34, ax_astore_nN tX8_rules_34, ax_aload_n tX8_rules_35, ax_aload_n tX8_rules_36, ax_getR tX8_rules_37, ax_putR tX8_rules_40, ax_putN tX8_rules_40, ax_aload_n tX8_rules_43, ax_aload_n tX8_rules_44, ax_putR tX8_rules_45, ax_putN tX8_rules_45, ax_iload_n tX8_rules_48, ax_iretI tX8_rules_49, f_14, f_15, f_36]
  try simp (disch := omega) only [z0, o1, nI_add, pk_mul, nI_ltI, nI_leI, nI_eq, nI_clamp, vpn, pk_sub, Nat.add_sub_cancel, bI_0, bI_1, eq_self, true_or, or_true, or_false, false_or, true_and, and_true, false_and, and_false, and_self, or_self, forall_const, not_true_eq_false, not_false_eq_true, false_implies, implies_true, true_implies, ↓reduceIte, if_true, if_false, Nat.not_lt_zero, Nat.zero_le, Nat.le_refl, Nat.lt_irrefl, ne_eq, reduceCtorEq, Bool.false_eq_true]
  have ret : F ≠ 0 → Q (some (.int (nI F))) h4 := fun q => h1 q h4 d4 (hf.up (by simp))
  by_cases q : F = 0
  · subst q
    first
      | exact K0 rfl
      | exact ⟨fun c => absurd rfl c, fun _ => K0 rfl⟩
      | exact ⟨fun _ => K0 rfl, fun c => absurd rfl c⟩
  · first
      | exact ⟨fun _ => ret q, fun c => absurd c q⟩
      | exact ⟨fun c => absurd c q, fun _ => ret q⟩
set_option maxRecDepth 100000 in
set_option maxHeartbeats 3200000 in
theorem x_rules (hX : gXs B sK sV) (hd : DS E Y ow v rl h s a) (wp : WP s a) : match rdRes (a 1) (s 2) with
    | .inl F => (∀ h', DS E Y ow v rl h' (va_up s 2 0) a → FRO ow ((0, 0, 0) :: ruS v) h h' → Q (some (.int (nI F))) h') → gFn B mX8_rules 30 1 5 [.ref (Y 0 0 0)] h Q
    | .inr r2 => (∀ h', DS E Y ow (1 - v) r2 h' (va_up s 2 0) a → FRO ow ((0, 0, 0) :: ruS v) h h' → Q (some (.int (nI 0))) h') → gFn B mX8_rules 30 1 5 [.ref (Y 0 0 0)] h Q := by
  obtain ⟨own, d0, df, dt, db, dl, dp, dg, dx, da, dh, du, dr⟩ := id hd
  obtain ⟨c0, i24, i25, i44, ⟨r1, r3, r5, r6, r7, r8, r9⟩, ⟨r11, r12, r13⟩, hm, hm1, hm2, hm3⟩ := id d0
  have l5 := dl.1.1
  have l6 := dl.2.1.1
  have l7 := dl.2.2.1.1
  have l8 := dl.2.2.2.1.1
  have l9 := dl.2.2.2.2.1
  have wpb := wp.1
  obtain ⟨v1, ru, ru'⟩ := id dr
  have q1 : 1 - v ≤ 1 := by omega
  have ts : du = du := rfl
  have hn6 : s 2 ≤ 600 := du.2.1
  have apart : ∀ j k, j = 2 ∨ j = 3 → k = 1 ∨ k = 2 ∨ k = 3 → ¬ Y 7 0 j = Y 8 (1 - v) k := fun j k hj hk => own.ne (And.intro (by omega) (by omega)) (And.intro (by omega) (by omega)) (by omega)
  have apz : ¬ Y 7 0 2 = Y 7 0 3 := own.ne (And.intro (by omega) (by omega)) (And.intro (by omega) (by omega)) (by omega)
  have st : (∀ x h2, hK h x = 0 → FRO ow [] h h2 → DS E Y ow v rl h2 s a → hK h2 x = 6 → hR h2 5 0 x = some (Y 7 0 0) → hR h2 5 1 x = some (Y 8 (1 - v) 0) → hI h2 5 2 x = nI 0 → gFn B mX4_readAll 29 0 0 [.ref x] h2 (fun w h3 => gG B mX8_rules 30 0 0 18 [(0, .ref (Y 0 0 0))] w.toList h3 Q)) → gFn B mX8_rules 30 1 5 [.ref (Y 0 0 0)] h Q := by
    intro K
    refine gStartX (cut := []) pnX8_rules okX8_rules (Nat.le_of_ble_eq_true rfl) 40 ?_
    simp only [axC_nil, axC_hit, axC_def, cutAt, lvLive, Option.isSome_none, Option.isSome_some, catS, lvGet, lvIns, lvSet1, lvSet2, gLit_0, gLit_1, lv_args, fv0, fv1, fv2, fv3, isI_s, isL_s, isRf_s, isRf_n, gtI_s, gtL_s, gtV_s, gFilter_nil, gFilter_cons, gL1, gL2, gL3, gL4, gL5, va_rf_s, va_rf_n, hK_sI, hK_sR, hK_sA, hK_sJ, hK_sO, hI_sI, hI_sR, hI_sA, hI_sJ, hI_sO, hR_sI, hR_sR, hR_sA, hR_sJ, hR_sO, hN_sI, hN_sR, hN_sA, hN_sJ, hN_sO, hA_sI, hA_sR, hA_sA, hA_sJ, hA_sO, hJ_sI, hJ_sR, hJ_sA, hJ_sJ, hJ_sO, hO_sI, hO_sR, hO_sA, hO_sJ, hO_sO, up3_eq, up2_eq, List.map_cons, List.map_nil, List.sum_cons, List.sum_nil, List.nil_append, List.cons_append, Option.toList_some, Option.toList_none, true_and, and_true, if_true, if_false, and_self, true_or, or_true, or_false, false_or, false_and, and_false, not_true_eq_false, not_false_eq_true, forall_const, reduceCtorEq, implies_true, List.contains_cons, List.contains_nil, Bool.or_false, Bool.false_or, Bool.or_true, Bool.true_or, Bool.and_true, Bool.true_and, Bool.and_false, Bool.false_and, Bool.not_true, Bool.not_false, BEq.rfl, Bool.false_eq_true, Bool.true_eq_false, eq_self, ↓reduceIte, Nat.reduceAdd, Nat.reduceEqDiff, Nat.reduceBEq, Nat.reduceLT, Nat.reduceLeDiff, Nat.reduceSub, Nat.reduceMul, Nat.reduceBNe, List.append_nil, Nat.zero_le, Nat.zero_add, Nat.zero_ne_one, Nat.one_ne_zero, false_implies, true_implies, not_false_eq_true, ne_eq, upd_e, updL_e, bI_zo, nI0z, nI1o, nI1z, nI0o, nI0q, nI1q, nm1_lt, nm1_ge, ax_new tX8_rules_0, ax_dup tX8_rules_3, ax_aload_n tX8_rules_4, ax_getR tX8_rules_5, ax_aload_n tX8_rules_8, ax_getR tX8_rules_9, ax_callI2 rfl rfl tX8_rules_12, ax_callV0 tX8_rules_15, ax_istore_n tX8_rules_18, ax_aload_n tX8_rules_19, ax_getR tX8_rules_20, ax_callV0 tX8_rules_23, ax_iload_n tX8_rules_26, ax_if_ne tX8_rules_27, ax_aload_n tX8_rules_30, ax_getR tX8_rules_31, ax_astore_nR tX8_rules_34, ax_astore_nN tX8_rules_34, ax_aload_n tX8_rules_35, ax_aload_n tX8_rules_36, ax_getR tX8_rules_37, ax_putR tX8_rules_40, ax_putN tX8_rules_40, ax_aload_n tX8_rules_43, ax_aload_n tX8_rules_44, ax_putR tX8_rules_45, ax_putN tX8_rules_45, ax_iload_n tX8_rules_48, ax_iretI tX8_rules_49, f_14, f_15, f_36, gn_5]
    try simp (disch := omega) only [z0, o1, nI_add, pk_mul, nI_ltI, nI_leI, nI_eq, nI_clamp, vpn, pk_sub, Nat.add_sub_cancel, bI_0, bI_1, eq_self, true_or, or_true, or_false, false_or, true_and, and_true, false_and, and_false, and_self, or_self, forall_const, not_true_eq_false, not_false_eq_true, false_implies, implies_true, true_implies, ↓reduceIte, if_true, if_false, Nat.not_lt_zero, Nat.zero_le, Nat.le_refl, Nat.lt_irrefl, ne_eq, reduceCtorEq, Bool.false_eq_true]
    intro x hx
    have f1 : FRO ow [] h (nO h 5 x) := (FRO.rf h).nO hx
    have d1 := hd.scr wp (f1.up (by simp))
    have c01 := d1.2.1.1
    have r111 : hR (nO h 5 x) 9 11 (Y 0 0 0) = some (Y 7 0 0) := d1.2.1.2.2.2.2.2.1.1
    have r131 : hR (nO h 5 x) 9 13 (Y 0 0 0) = some (Y 8 (1 - v) 0) := d1.2.1.2.2.2.2.2.1.2.2
    have kx : hK (nO h 5 x) x = 6 := by rw [hK_nO, va_up_eq, if_pos rfl]
    rw [r111, r131]
    refine ⟨c01, c01, ?_⟩
    refine x_reader_init (d := 27) (zt := Y 7 0) (zr := Y 8 (1 - v)) kx ?_
    generalize hh : sR (sR (sI (sI (sI (nO h 5 x) 5 2 x (nI 0)) 5 3 x (-nI 16)) 5 4 x (nI 0)) 5 0 x (some (Y 7 0 0))) 5 1 x (some (Y 8 (1 - v) 0)) = h2
    have f2 : FRO ow [] h h2 := by rw [← hh]; exact ((((f1.sI (Or.inr hx)).sI (Or.inr hx)).sI (Or.inr hx)).sR (Or.inr hx)).sR (Or.inr hx)
    have kx2 : hK h2 x = 6 := by rw [← hh]; exact kx
    have K2 := K x h2 hx f2 (hd.scr wp (f2.up (by simp))) kx2 (by rw [← hh]; simp [hR_sR, up3_eq]) (by rw [← hh]; simp [hR_sR, up3_eq]) (by rw [← hh]; simp [hI_sR, hI_sI, up3_eq])
    refine gAx (cut := []) okX8_rules 40 ?_
    simp only [axC_nil, axC_hit, axC_def, cutAt, lvLive, Option.isSome_none, Option.isSome_some, catS, lvGet, lvIns, lvSet1, lvSet2, gLit_0, gLit_1, lv_args, fv0, fv1, fv2, fv3, isI_s, isL_s, isRf_s, isRf_n, gtI_s, gtL_s, gtV_s, gFilter_nil, gFilter_cons, gL1, gL2, gL3, gL4, gL5, va_rf_s, va_rf_n, hK_sI, hK_sR, hK_sA, hK_sJ, hK_sO, hI_sI, hI_sR, hI_sA, hI_sJ, hI_sO, hR_sI, hR_sR, hR_sA, hR_sJ, hR_sO, hN_sI, hN_sR, hN_sA, hN_sJ, hN_sO, hA_sI, hA_sR, hA_sA, hA_sJ, hA_sO, hJ_sI, hJ_sR, hJ_sA, hJ_sJ, hJ_sO, hO_sI, hO_sR, hO_sA, hO_sJ, hO_sO, up3_eq, up2_eq, List.map_cons, List.map_nil, List.sum_cons, List.sum_nil, List.nil_append, List.cons_append, Option.toList_some, Option.toList_none, true_and, and_true, if_true, if_false, and_self, true_or, or_true, or_false, false_or, false_and, and_false, not_true_eq_false, not_false_eq_true, forall_const, reduceCtorEq, implies_true, List.contains_cons, List.contains_nil, Bool.or_false, Bool.false_or, Bool.or_true, Bool.true_or, Bool.and_true, Bool.true_and, Bool.and_false, Bool.false_and, Bool.not_true, Bool.not_false, BEq.rfl, Bool.false_eq_true, Bool.true_eq_false, eq_self, ↓reduceIte, Nat.reduceAdd, Nat.reduceEqDiff, Nat.reduceBEq, Nat.reduceLT, Nat.reduceLeDiff, Nat.reduceSub, Nat.reduceMul, Nat.reduceBNe, List.append_nil, Nat.zero_le, Nat.zero_add, Nat.zero_ne_one, Nat.one_ne_zero, false_implies, true_implies, not_false_eq_true, ne_eq, upd_e, updL_e, bI_zo, nI0z, nI1o, nI1z, nI0o, nI0q, nI1q, nm1_lt, nm1_ge, ax_new tX8_rules_0, ax_dup tX8_rules_3, ax_aload_n tX8_rules_4, ax_getR tX8_rules_5, ax_aload_n tX8_rules_8, ax_getR tX8_rules_9, ax_callI2 rfl rfl tX8_rules_12, ax_callV0 tX8_rules_15, ax_istore_n tX8_rules_18, ax_aload_n tX8_rules_19, ax_getR tX8_rules_20, ax_callV0 tX8_rules_23, ax_iload_n tX8_rules_26, ax_if_ne tX8_rules_27, ax_aload_n tX8_rules_30, ax_getR tX8_rules_31, ax_astore_nR tX8_rules_34, ax_astore_nN tX8_rules_34, ax_aload_n tX8_rules_35, ax_aload_n tX8_rules_36, ax_getR tX8_rules_37, ax_putR tX8_rules_40, ax_putN tX8_rules_40, ax_aload_n tX8_rules_43, ax_aload_n tX8_rules_44, ax_putR tX8_rules_45, ax_putN tX8_rules_45, ax_iload_n tX8_rules_48, ax_iretI tX8_rules_49, f_14, f_15, f_36, kx2]
    exact K2
  -- what stands behind the reader
  have fr : ∀ x h2 h3, hK h x = 0 → FRO ow [] h h2 → FRM (rdI x (Y 8 (1 - v))) (raO (Y 7 0) (Y 8 (1 - v))) h2 h3 → FRO ow (ruS v) h h3 := by
    intro x h2 h3 hx f2 f3
    have ox : ∀ r i k, vld s a r i k → va_up ow x (7, 0, 2) (Y r i k) = (r, i, k) := fun r i k hv => by
      rw [va_up_eq, if_neg (fun e => (own r i k hv).1 (by rw [e]; exact hx))]
      exact (own r i k hv).2
    have oxx : va_up ow x (7, 0, 2) x = (7, 0, 2) := by rw [va_up_eq, if_pos rfl]
    refine (f2.up (by simp)).tr (f3.fro (ow := va_up ow x (7, 0, 2)) ?_) (fun b hb => by rw [va_up_eq, if_neg (fun e => hb (by rw [e]; exact hx))])
    have x1 := ox 8 (1 - v) 0 (And.intro (by omega) (by omega))
    have x2 := ox 8 (1 - v) 1 (And.intro (by omega) (by omega))
    have x3 := ox 8 (1 - v) 2 (And.intro (by omega) (by omega))
    have x4 := ox 8 (1 - v) 3 (And.intro (by omega) (by omega))
    have x5 := ox 7 0 2 (And.intro (by omega) (by omega))
    have x6 := ox 7 0 3 (And.intro (by omega) (by omega))
    intro y hy
    simp only [tch, List.map_cons, List.map_nil, List.cons_append, List.nil_append, List.append_nil, List.mem_cons, List.not_mem_nil, or_false] at hy
    rcases hy with rfl | rfl | rfl | rfl | rfl | rfl | rfl | rfl | rfl | rfl <;> simp [oxx, x1, x2, x3, x4, x5, x6]
  have L := fun x h2 (d2 : DS E Y ow v rl h2 s a) kx r0 r1 i2 => x_readAll (B := B) (h := h2) (x := x) (Q := fun w h3 => gG B mX8_rules 30 0 0 18 [(0, .ref (Y 0 0 0))] w.toList h3 Q) (zt := Y 7 0) (zr := Y 8 (1 - v)) hX kx r0 r1 i2 (d2.2.2.2.2.2.2.2.2.2.2.2.1) (d2.2.2.2.2.2.2.2.2.2.2.2.2.2.2) (own.rud q1) apart apz
  have hFl := fun F => rdA_F (C := tkC (a 1) (s 2) (cutS (a 1) (s 2) (s 2) 0)) (P := tkP (s 2) (cutS (a 1) (s 2) (s 2) 0)) (G := fun F => 0 < F ∧ F < 2 ^ 31) (fun i => ?_) (fun i => ?_) (fun i => ?_) 17 0 [] F
  rotate_left
  all_goals try (
    have hM := (cutS_in (T := a 1) (z := s 2) (s 2) 0).1
    have hP : tkP (s 2) (cutS (a 1) (s 2) (s 2) 0) i ≤ 600 := by
      unfold tkP
      split
      · rename_i q; have := hM _ (gD_mem q); omega
      · omega
    exact ⟨by omega, by omega⟩)
  unfold rdRes at L ⊢
  generalize rdA (tkC (a 1) (s 2) (cutS (a 1) (s 2) (s 2) 0)) (tkP (s 2) (cutS (a 1) (s 2) (s 2) 0)) 17 0 [] = res at L hFl ⊢
  have tapF : ∀ x h2 h3, DS E Y ow v rl h2 s a → FRM (rdI x (Y 8 (1 - v))) (raO (Y 7 0) (Y 8 (1 - v))) h2 h3 → TAP h3 (Y 7 0) (s 2) (a 1) := fun x h2 h3 d2 f3 => (show TAP h2 (Y 7 0) (s 2) (a 1) from d2.2.2.2.2.2.2.2.2.2.2.2.1).F f3 (by simp) (by simp)
  rcases res with F | r2
  · intro hq
    have hF := hFl F rfl
    refine st (fun x h2 hx f2 d2 kx r0 r1 i2 => L x h2 d2 kx r0 r1 i2 (fun h3 f3 => ?_))
    refine x_rules_w hd wp (fr x h2 h3 hx f2 f3) (tapF x h2 h3 d2 f3) ?_ hF.2 (fun _ h' d4 f4 => hq h' d4 f4) (fun e => absurd e (by omega))
    have q := (show RUS h2 (Y 8 (1 - v)) from d2.2.2.2.2.2.2.2.2.2.2.2.2.2.2)
    unfold RUS at q ⊢
    rw [f3.1, f3.2.1, f3.2.2.1]
    exact q
  · intro hq
    refine st (fun x h2 hx f2 d2 kx r0 r1 i2 => L x h2 d2 kx r0 r1 i2 (fun h3 f3 u3 => ?_))
    refine x_rules_w (F := 0) hd wp (fr x h2 h3 hx f2 f3) (tapF x h2 h3 d2 f3) u3.S (by omega) (fun e => absurd rfl e) (fun _ h4 f4 d4 hf4 => ?_)
    obtain ⟨own4, d04, -⟩ := id d4
    obtain ⟨c04, i244, i254, i444, rr4, ⟨r114, r124, r134⟩, hm4⟩ := id d04
    have u4 : RUO h4 (Y 8 (1 - v)) r2 [] := u3.F f4 (by simp) (by simp) (by simp) (by simp) (by simp)
    have S := DS.swp d4 wp u4
    refine gAx (cut := []) okX8_rules 40 ?_
    simp only [axC_nil, axC_hit, axC_def, cutAt, lvLive, Option.isSome_none, Option.isSome_some, catS, lvGet, lvIns, lvSet1, lvSet2, gLit_0, gLit_1, lv_args, fv0, fv1, fv2, fv3, isI_s, isL_s, isRf_s, isRf_n, gtI_s, gtL_s, gtV_s, gFilter_nil, gFilter_cons, gL1, gL2, gL3, gL4, gL5, va_rf_s, va_rf_n, hK_sI, hK_sR, hK_sA, hK_sJ, hK_sO, hI_sI, hI_sR, hI_sA, hI_sJ, hI_sO, hR_sI, hR_sR, hR_sA, hR_sJ, hR_sO, hN_sI, hN_sR, hN_sA, hN_sJ, hN_sO, hA_sI, hA_sR, hA_sA, hA_sJ, hA_sO, hJ_sI, hJ_sR, hJ_sA, hJ_sJ, hJ_sO, hO_sI, hO_sR, hO_sA, hO_sJ, hO_sO, up3_eq, up2_eq, List.map_cons, List.map_nil, List.sum_cons, List.sum_nil, List.nil_append, List.cons_append, Option.toList_some, Option.toList_none, true_and, and_true, if_true, if_false, and_self, true_or, or_true, or_false, false_or, false_and, and_false, not_true_eq_false, not_false_eq_true, forall_const, reduceCtorEq, implies_true, List.contains_cons, List.contains_nil, Bool.or_false, Bool.false_or, Bool.or_true, Bool.true_or, Bool.and_true, Bool.true_and, Bool.and_false, Bool.false_and, Bool.not_true, Bool.not_false, BEq.rfl, Bool.false_eq_true, Bool.true_eq_false, eq_self, ↓reduceIte, Nat.reduceAdd, Nat.reduceEqDiff, Nat.reduceBEq, Nat.reduceLT, Nat.reduceLeDiff, Nat.reduceSub, Nat.reduceMul, Nat.reduceBNe, List.append_nil, Nat.zero_le, Nat.zero_add, Nat.zero_ne_one, Nat.one_ne_zero, false_implies, true_implies, not_false_eq_true, ne_eq, upd_e, updL_e, bI_zo, nI0z, nI1o, nI1z, nI0o, nI0q, nI1q, nm1_lt, nm1_ge, ax_new tX8_rules_0, ax_dup tX8_rules_3, ax_aload_n tX8_rules_4, ax_getR tX8_rules_5, ax_aload_n tX8_rules_8, ax_getR tX8_rules_9, ax_callI2 rfl rfl tX8_rules_12, ax_callV0 tX8_rules_15, ax_istore_n tX8_rules_18, ax_aload_n tX8_rules_19, ax_getR tX8_rules_20, ax_callV0 tX8_rules_23, ax_iload_n tX8_rules_26, ax_if_ne tX8_rules_27, ax_aload_n tX8_rules_30, ax_getR tX8_rules_31, ax_astore_nR tX8_rules_34, ax_astore_nN tX8_rules_34, ax_aload_n tX8_rules_35, ax_aload_n tX8_rules_36, ax_getR tX8_rules_37, ax_putR tX8_rules_40, ax_putN tX8_rules_40, ax_aload_n tX8_rules_43, ax_aload_n tX8_rules_44, ax_putR tX8_rules_45, ax_putN tX8_rules_45, ax_iload_n tX8_rules_48, ax_iretI tX8_rules_49, f_14, f_15, f_36, c04, r124, r134]
    try simp only [axC_nil, axC_hit, axC_def, cutAt, lvLive, Option.isSome_none, Option.isSome_some, catS, lvGet, lvIns, lvSet1, lvSet2, gLit_0, gLit_1, lv_args, fv0, fv1, fv2, fv3, isI_s, isL_s, isRf_s, isRf_n, gtI_s, gtL_s, gtV_s, gFilter_nil, gFilter_cons, gL1, gL2, gL3, gL4, gL5, va_rf_s, va_rf_n, hK_sI, hK_sR, hK_sA, hK_sJ, hK_sO, hI_sI, hI_sR, hI_sA, hI_sJ, hI_sO, hR_sI, hR_sR, hR_sA, hR_sJ, hR_sO, hN_sI, hN_sR, hN_sA, hN_sJ, hN_sO, hA_sI, hA_sR, hA_sA, hA_sJ, hA_sO, hJ_sI, hJ_sR, hJ_sA, hJ_sJ, hJ_sO, hO_sI, hO_sR, hO_sA, hO_sJ, hO_sO, up3_eq, up2_eq, List.map_cons, List.map_nil, List.sum_cons, List.sum_nil, List.nil_append, List.cons_append, Option.toList_some, Option.toList_none, true_and, and_true, if_true, if_false, and_self, true_or, or_true, or_false, false_or, false_and, and_false, not_true_eq_false, not_false_eq_true, forall_const, reduceCtorEq, implies_true, List.contains_cons, List.contains_nil, Bool.or_false, Bool.false_or, Bool.or_true, Bool.true_or, Bool.and_true, Bool.true_and, Bool.and_false, Bool.false_and, Bool.not_true, Bool.not_false, BEq.rfl, Bool.false_eq_true, Bool.true_eq_false, eq_self, ↓reduceIte, Nat.reduceAdd, Nat.reduceEqDiff, Nat.reduceBEq, Nat.reduceLT, Nat.reduceLeDiff, Nat.reduceSub, Nat.reduceMul, Nat.reduceBNe, List.append_nil, Nat.zero_le, Nat.zero_add, Nat.zero_ne_one, Nat.one_ne_zero, false_implies, true_implies, not_false_eq_true, ne_eq, upd_e, updL_e, bI_zo, nI0z, nI1o, nI1z, nI0o, nI0q, nI1q, nm1_lt, nm1_ge, ax_new tX8_rules_0, ax_dup tX8_rules_3, ax_aload_n tX8_rules_4, ax_getR tX8_rules_5, ax_aload_n tX8_rules_8, ax_getR tX8_rules_9, ax_callI2 rfl rfl tX8_rules_12, ax_callV0 tX8_rules_15, ax_istore_n tX8_rules_18, ax_aload_n tX8_rules_19, ax_getR tX8_rules_20, ax_callV0 tX8_rules_23, ax_iload_n tX8_rules_26, ax_if_ne tX8_rules_27, ax_aload_n tX8_rules_30, ax_getR tX8_rules_31, ax_astore_nR tX8_rules_34, ax_astore_nN tX8_rules_34, ax_aload_n tX8_rules_35, ax_aload_n tX8_rules_36, ax_getR tX8_rules_37, ax_putR tX8_rules_40, ax_putN tX8_rules_40, ax_aload_n tX8_rules_43, ax_aload_n tX8_rules_44, ax_putR tX8_rules_45, ax_putN tX8_rules_45, ax_iload_n tX8_rules_48, ax_iretI tX8_rules_49, f_14, f_15, f_36, r124, r134]
    exact hq _ S.1 ((hf4.up (by simp)).t2 (S.2.up (by simp)))
end X8I
