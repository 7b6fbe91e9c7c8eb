/-! THE DESK: one page is given -/
section X8W
variable {B : gB} {h h' : gHp} {d E v mi : Nat} {Y : gYm} {ow : Nat → gTag} {rl : List (Nat × List (Nat × Nat))} {s : Nat → Nat} {a : Nat → Nat → Nat} {Q : Option Value → gHp → Prop}
/-- what is marked as fitting -/
def FTA (Y : gYm) (h : gHp) (s : Nat → Nat) (a : Nat → Nat → Nat) : Prop := ∀ p, p < s 27 → hI h 4 5 (Y 2 p 0) = nI (b2n (a 62 p == 1))
set_option maxRecDepth 100000 in
set_option maxHeartbeats 6400000 in
theorem x_give {b g M R3 : Nat} {R : Value} {i : Nat} (hX : gXt B E mi) (hd : DS E Y ow v rl h s a) (wp : WP s a) (wa : WA s a) (pz : PZ s a) (pr : PR s a) (hgc : ∀ l, l ∈ rl → l.1 ≤ 9 ∧ GC 16 l.2) (ft : FTA Y h s a) (hb : b < s 46) (hg : g < s 31) (h57 : s 57 < 300) {c n : Nat} (hi : i < 2 ^ 30) (hM : M < 2 ^ 30) (hq : ∀ h' Y' ow', DS E Y' ow' v rl h' (va_up s 57 (s 57 + 1)) (gvF s a rl b g) → FR9 ow h h' → (∀ b, hK h b ≠ 0 → ow' b = ow b) → (∀ r, r ≠ 6 → r ≠ 1 → Y' r = Y r) → FTA Y' h' (va_up s 57 (s 57 + 1)) (gvF s a rl b g) → gG B mX8_givePages (d + 8) c n 6 [(0, .ref (Y 0 0 0)), (1, .ref (Y 5 b 0)), (2, R), (3, .int (nI R3)), (4, .int (nI (M + 1))), (5, .int (nI (i + 1)))] [] h' Q) : gG B mX8_givePages (d + 8) (c + 3) (n + 17 + gs (s 57)) 85 [(0, .ref (Y 0 0 0)), (1, .ref (Y 5 b 0)), (2, R), (3, .int (nI R3)), (4, .int (nI M)), (5, .int (nI i)), (6, .ref (Y 3 g 0))] [] h Q := by
  obtain ⟨own, d0, df, dt, db, dl, dp, dg, dx, da, dh, du, dr⟩ := id hd
  obtain ⟨c0, i24, i25, i44, ⟨r1, r3, r5, r6, r7, r8, r9⟩, ⟨r11, r12, r13⟩, hm, hm1, hm2, hm3⟩ := id d0
  have l5 := dl.1.1
  have l6 := dl.2.1.1
  have l7 := dl.2.2.1.1
  have l8 := dl.2.2.2.1.1
  have l9 := dl.2.2.2.2.1
  have wpb := wp.1
  have wg := wp.2.2.2.1 g hg
  obtain ⟨p34, p35⟩ := pr g hg
  obtain ⟨kg, ig, rp, rt⟩ := dg g hg
  have gl := gs_le (s 57)
  refine gAx (cut := [(92, [0, 1, 2, 3, 4, 5, 6])]) okX8_givePages 40 ?_
  simp only [axC_nil, axC_hit, axC_def, cutAt, lvLive, Option.isSome_none, Option.isSome_some, catS, lvGet, lvIns, lvSet1, lvSet2, gLit_0, gLit_1, lv_args, fv0, fv1, fv2, fv3, isI_s, isL_s, isRf_s, isRf_n, gtI_s, gtL_s, gtV_s, gFilter_nil, gFilter_cons, gL1, gL2, gL3, gL4, gL5, va_rf_s, va_rf_n, hK_sI, hK_sR, hK_sA, hK_sJ, hK_sO, hI_sI, hI_sR, hI_sA, hI_sJ, hI_sO, hR_sI, hR_sR, hR_sA, hR_sJ, hR_sO, hN_sI, hN_sR, hN_sA, hN_sJ, hN_sO, hA_sI, hA_sR, hA_sA, hA_sJ, hA_sO, hJ_sI, hJ_sR, hJ_sA, hJ_sJ, hJ_sO, hO_sI, hO_sR, hO_sA, hO_sJ, hO_sO, up3_eq, up2_eq, List.map_cons, List.map_nil, List.sum_cons, List.sum_nil, List.nil_append, List.cons_append, Option.toList_some, Option.toList_none, true_and, and_true, if_true, if_false, and_self, true_or, or_true, or_false, false_or, false_and, and_false, not_true_eq_false, not_false_eq_true, forall_const, reduceCtorEq, implies_true, List.contains_cons, List.contains_nil, Bool.or_false, Bool.false_or, Bool.or_true, Bool.true_or, Bool.and_true, Bool.true_and, Bool.and_false, Bool.false_and, Bool.not_true, Bool.not_false, BEq.rfl, Bool.false_eq_true, Bool.true_eq_false, eq_self, ↓reduceIte, Nat.reduceAdd, Nat.reduceEqDiff, Nat.reduceBEq, Nat.reduceLT, Nat.reduceLeDiff, Nat.reduceSub, Nat.reduceMul, Nat.reduceBNe, List.append_nil, Nat.zero_le, Nat.zero_add, Nat.zero_ne_one, Nat.one_ne_zero, false_implies, true_implies, not_false_eq_true, ne_eq, upd_e, updL_e, bI_zo, nI0z, nI1o, nI1z, nI0o, nI0q, nI1q, nm1_lt, nm1_ge, ax_iconst tX8_givePages_0, ax_istore tX8_givePages_1, ax_iconst tX8_givePages_3, ax_istore tX8_givePages_4, ax_iload tX8_givePages_6, ax_aload_n tX8_givePages_8, ax_getR tX8_givePages_9, ax_callV0 tX8_givePages_12, ax_icmp_ge tX8_givePages_15, ax_iload tX8_givePages_18, ax_iload_n tX8_givePages_20, ax_icmp_ge tX8_givePages_21, ax_aload_n tX8_givePages_24, ax_getR tX8_givePages_25, ax_iload tX8_givePages_28, ax_callV1 tX8_givePages_30, ax_checkcast tX8_givePages_33, ax_astoreR tX8_givePages_36, ax_astoreN tX8_givePages_36, ax_aload_n tX8_givePages_38, ax_ifnullR tX8_givePages_39, ax_ifnullN tX8_givePages_39, ax_aload tX8_givePages_42, ax_getR tX8_givePages_44, ax_aload_n tX8_givePages_47, ax_callV1 tX8_givePages_48, ax_if_eq tX8_givePages_51, ax_iconst tX8_givePages_54, ax_goto tX8_givePages_55, ax_iconst tX8_givePages_58, ax_istore tX8_givePages_59, ax_iload tX8_givePages_61, ax_if_eq tX8_givePages_63, ax_aload_n tX8_givePages_66, ax_aload tX8_givePages_67, ax_aload_n tX8_givePages_69, ax_callV2 tX8_givePages_70, ax_if_eq tX8_givePages_73, ax_aload_n tX8_givePages_76, ax_aload tX8_givePages_77, ax_callV1 tX8_givePages_79, ax_if_eq tX8_givePages_82, ax_aload_n tX8_givePages_85, ax_getR tX8_givePages_86, ax_new tX8_givePages_89, ax_dup tX8_givePages_92, ax_aload_n tX8_givePages_93, ax_getI tX8_givePages_94, ax_aload tX8_givePages_97, ax_aload_n tX8_givePages_99, ax_getI tX8_givePages_100, ax_aload_n tX8_givePages_103, ax_getR tX8_givePages_104, ax_aload tX8_givePages_107, ax_getR tX8_givePages_109, ax_aload_n tX8_givePages_112, ax_getI tX8_givePages_113, ax_callV2 tX8_givePages_116, ax_callI4 rfl rfl tX8_givePages_119, ax_callV1 tX8_givePages_122, ax_pop tX8_givePages_125, ax_aload tX8_givePages_126, ax_getR tX8_givePages_128, ax_aload_n tX8_givePages_131, ax_callV1 tX8_givePages_132, ax_aload_n tX8_givePages_135, ax_dup tX8_givePages_136, ax_getI tX8_givePages_137, ax_iconst tX8_givePages_140, ax_iadd tX8_givePages_141, ax_putI tX8_givePages_142, ax_iinc tX8_givePages_145, ax_iinc tX8_givePages_148, ax_goto tX8_givePages_151, ax_iload tX8_givePages_154, ax_iretI tX8_givePages_156, f_10, f_29, f_51, f_52, f_99, f_100, f_190, f_192, f_194, c0, r9, gn_2]
  refine ⟨by omega, fun x hx => ?_⟩
  have kx1 : hK (nO h 2 x) x = 3 := by rw [hK_nO, va_up_eq, if_pos rfl]
  have f1 : ∀ (ow : Nat → gTag) T, FRO ow T h (nO h 2 x) := fun ow T => (FRO.rf h).nO hx
  have D1 := hd.scr wp (f1 ow (scT v))
  obtain ⟨own1, d01, df1, dt1, db1, dl1, dp1, dg1, dx1, da1, dh1, du1, dr1⟩ := id D1
  obtain ⟨c01, i241, i251, i441, ⟨r11', r31, r51, r61, r71, r81, r91⟩, ⟨r111, r121, r131⟩, hm', hm1', hm2', hm3'⟩ := id d01
  obtain ⟨kg1, ig1, rp1, rt1⟩ := dg1 g hg
  obtain ⟨sd, wd, ak1, dy1⟩ := da1 b hb
  have ka1 := ak1.1.1
  have n01 : hI (nO h 2 x) 1 0 (Y 5 b 0) = nI b := ak1.2.1.1
  have kr1 := dr1.2.1.1.1
  have kp1 := (dp1 (a 32 g) wg.1).2.1.1
  have w24 := (wp.2.2.1 (a 32 g) wg.1).2.1
  refine gAx (cut := [(116, [0, 1, 2, 3, 4, 5, 6])]) okX8_givePages 40 ?_
  simp only [axC_nil, axC_hit, axC_def, cutAt, lvLive, Option.isSome_none, Option.isSome_some, catS, lvGet, lvIns, lvSet1, lvSet2, gLit_0, gLit_1, lv_args, fv0, fv1, fv2, fv3, isI_s, isL_s, isRf_s, isRf_n, gtI_s, gtL_s, gtV_s, gFilter_nil, gFilter_cons, gL1, gL2, gL3, gL4, gL5, va_rf_s, va_rf_n, hK_sI, hK_sR, hK_sA, hK_sJ, hK_sO, hI_sI, hI_sR, hI_sA, hI_sJ, hI_sO, hR_sI, hR_sR, hR_sA, hR_sJ, hR_sO, hN_sI, hN_sR, hN_sA, hN_sJ, hN_sO, hA_sI, hA_sR, hA_sA, hA_sJ, hA_sO, hJ_sI, hJ_sR, hJ_sA, hJ_sJ, hJ_sO, hO_sI, hO_sR, hO_sA, hO_sJ, hO_sO, up3_eq, up2_eq, List.map_cons, List.map_nil, List.sum_cons, List.sum_nil, List.nil_append, List.cons_append, Option.toList_some, Option.toList_none, true_and, and_true, if_true, if_false, and_self, true_or, or_true, or_false, false_or, false_and, and_false, not_true_eq_false, not_false_eq_true, forall_const, reduceCtorEq, implies_true, List.contains_cons, List.contains_nil, Bool.or_false, Bool.false_or, Bool.or_true, Bool.true_or, Bool.and_true, Bool.true_and, Bool.and_false, Bool.false_and, Bool.not_true, Bool.not_false, BEq.rfl, Bool.false_eq_true, Bool.true_eq_false, eq_self, ↓reduceIte, Nat.reduceAdd, Nat.reduceEqDiff, Nat.reduceBEq, Nat.reduceLT, Nat.reduceLeDiff, Nat.reduceSub, Nat.reduceMul, Nat.reduceBNe, List.append_nil, Nat.zero_le, Nat.zero_add, Nat.zero_ne_one, Nat.one_ne_zero, false_implies, true_implies, not_false_eq_true, ne_eq, upd_e, updL_e, bI_zo, nI0z, nI1o, nI1z, nI0o, nI0q, nI1q, nm1_lt, nm1_ge, ax_iconst tX8_givePages_0, ax_istore tX8_givePages_1, ax_iconst tX8_givePages_3, ax_istore tX8_givePages_4, ax_iload tX8_givePages_6, ax_aload_n tX8_givePages_8, ax_getR tX8_givePages_9, ax_callV0 tX8_givePages_12, ax_icmp_ge tX8_givePages_15, ax_iload tX8_givePages_18, ax_iload_n tX8_givePages_20, ax_icmp_ge tX8_givePages_21, ax_aload_n tX8_givePages_24, ax_getR tX8_givePages_25, ax_iload tX8_givePages_28, ax_callV1 tX8_givePages_30, ax_checkcast tX8_givePages_33, ax_astoreR tX8_givePages_36, ax_astoreN tX8_givePages_36, ax_aload_n tX8_givePages_38, ax_ifnullR tX8_givePages_39, ax_ifnullN tX8_givePages_39, ax_aload tX8_givePages_42, ax_getR tX8_givePages_44, ax_aload_n tX8_givePages_47, ax_callV1 tX8_givePages_48, ax_if_eq tX8_givePages_51, ax_iconst tX8_givePages_54, ax_goto tX8_givePages_55, ax_iconst tX8_givePages_58, ax_istore tX8_givePages_59, ax_iload tX8_givePages_61, ax_if_eq tX8_givePages_63, ax_aload_n tX8_givePages_66, ax_aload tX8_givePages_67, ax_aload_n tX8_givePages_69, ax_callV2 tX8_givePages_70, ax_if_eq tX8_givePages_73, ax_aload_n tX8_givePages_76, ax_aload tX8_givePages_77, ax_callV1 tX8_givePages_79, ax_if_eq tX8_givePages_82, ax_aload_n tX8_givePages_85, ax_getR tX8_givePages_86, ax_new tX8_givePages_89, ax_dup tX8_givePages_92, ax_aload_n tX8_givePages_93, ax_getI tX8_givePages_94, ax_aload tX8_givePages_97, ax_aload_n tX8_givePages_99, ax_getI tX8_givePages_100, ax_aload_n tX8_givePages_103, ax_getR tX8_givePages_104, ax_aload tX8_givePages_107, ax_getR tX8_givePages_109, ax_aload_n tX8_givePages_112, ax_getI tX8_givePages_113, ax_callV2 tX8_givePages_116, ax_callI4 rfl rfl tX8_givePages_119, ax_callV1 tX8_givePages_122, ax_pop tX8_givePages_125, ax_aload tX8_givePages_126, ax_getR tX8_givePages_128, ax_aload_n tX8_givePages_131, ax_callV1 tX8_givePages_132, ax_aload_n tX8_givePages_135, ax_dup tX8_givePages_136, ax_getI tX8_givePages_137, ax_iconst tX8_givePages_140, ax_iadd tX8_givePages_141, ax_putI tX8_givePages_142, ax_iinc tX8_givePages_145, ax_iinc tX8_givePages_148, ax_goto tX8_givePages_151, ax_iload tX8_givePages_154, ax_iretI tX8_givePages_156, f_10, f_29, f_51, f_52, f_99, f_100, f_190, f_192, f_194, ka1, n01, c01, i241, r121, kg1, rp1]
  refine gG_wd (c' := 0 + (c + 2)) (n' := 0 + (n + 12 + gs (s 57))) (by omega) (by omega) ?_
  refine gG_callV (f := mX5_groundsHolding) (ci := 6) (okMb_V (gMs_at (r := 29) (by decide)) (by decide)) (gDec okX8_givePages tX8_givePages_116) (gMem (i := 792) rfl rfl) rfl (by decide) rfl (c1 := 0) (n1 := 0) (c := c + 2) (n := n + 12 + gs (s 57)) (As := [.ref (Y 2 (a 32 g) 0), .int (nI (s 24))]) (rest := [.int (nI (s 24)), .ref (Y 3 g 0), .int (nI b), .ref x, .ref x, .ref (Y 0 9 0)]) (d1 := d + 7) (d := d + 8) kr1 rfl (by simp [Value.category]) (by omega) ?_
  refine x_groundsHolding (d := d + 3) dr1.2.1 (own1.rud dr1.1) (dp1 (a 32 g) wg.1).2 w24 (by omega) hgc (fun F => ?_)
  rw [kv_kn]
  have ehb : sA (nO h 2 x) 12 (Y 8 v 5) F = nO (sA h 12 (Y 8 v 5) F) 2 x := rfl
  rw [ehb]
  have o85 := (own 8 v 5 (And.intro dr.1 (by omega))).2
  have Fb : FRO ow [(8, v, 5)] h (sA h 12 (Y 8 v 5) F) := (FRO.rf h).sA (Or.inl (by simp [o85]))
  generalize hhb : sA h 12 (Y 8 v 5) F = hb0 at Fb
  have hxb : hK hb0 x = 0 := by rw [← hhb]; exact hx
  have Db : DS E Y ow v rl hb0 s a := hd.scr wp (Fb.up (by simp))
  have ftb : FTA Y hb0 s a := fun p hp => by rw [← hhb]; exact ft p hp
  have kbk : ∀ y, hK hb0 y = hK h y := fun y => by rw [← hhb]; rfl
  have f2 : ∀ (ow : Nat → gTag) T, FRO ow T hb0 (nO hb0 2 x) := fun ow T => (FRO.rf hb0).nO hxb
  have D2 := Db.scr wp (f2 ow (scT v))
  obtain ⟨own2, d02, df2, dt2, db2, dl2, dp2, dg2, dx2, da2, dh2, du2, dr2⟩ := id D2
  obtain ⟨kg2, ig2, rp2, rt2⟩ := dg2 g hg
  have tx2 := (dx2 (a 33 g) wg.2.1).2.2
  have kx2 : hK (nO hb0 2 x) x = 3 := by rw [hK_nO, va_up_eq, if_pos rfl]
  have hgr := grM_lt (s := s) (a := a) hgc (a 32 g)
  refine gG_wd (c' := 1 + (c + 1)) (n' := a 34 (a 37 (a 33 g)) + (n + gs (s 57))) (by omega) (by omega) ?_
  refine gG_callI (f := mX1_init) (okMb_I (gMs_at (r := 10) (by decide)) (by decide)) (gDec okX8_givePages tX8_givePages_119) (gMem (i := 883) rfl rfl) (c1 := 1) (n1 := a 34 (a 37 (a 33 g))) (c := c + 1) (n := n + gs (s 57)) (As := [.int (nI b), .ref (Y 3 g 0), .int (nI (s 24)), .int (nI (grM s a rl (a 32 g)))]) (rest := [.ref x, .ref (Y 0 9 0)]) (d1 := d + 3 + 4) (d := d + 8) rfl (by simp [Value.category]) (by omega) ?_
  refine x_gift_init (d := d + 3) (zt := Y 4 (a 33 g)) kg2 ig2 rt2 tx2 hgr kx2 (fun w h3 w2 wx f3 G3 A3 => ?_)
  rw [p34] at G3 A3
  have eB : cntN (isBlkT (grM s a rl (a 32 g)) (a 39 (a 33 g)) (spS a (a 33 g))) (a 34 g) = cntN (isBlk s a rl g) (a 34 g) := cntN_cg (fun k _ => blk_T (rl := rl) wp hg k)
  rw [eB] at G3
  have A3' : ∀ k, k < a 34 g → hA h3 12 w k = nI (shown s a rl g k) := fun k hk => by
    have := A3 k hk
    rw [blk_T (rl := rl) wp hg k, if_pos (show k < 12 by omega), p35 k hk] at this
    exact this
  have w0 : hK hb0 w = 0 := by
    rcases Nat.eq_zero_or_pos (hK hb0 w) with q | q
    · exact q
    · rw [((f2 ow []).1 w (by omega)).1] at w2; exact w2
  have F3o : ∀ (ow : Nat → gTag) T, (∃ q, q ∈ T) → FRO ow T hb0 h3 := fun ow T ⟨q, hq⟩ => ((f2 (va_up ow x q) T).t2 (f3 (va_up ow x q) T (by rw [va_up_eq, if_pos rfl]; exact hq))).del hxb
  have F3s := F3o ow (scT v) ⟨(8, v, 5), by simp⟩
  have D3 := Db.scr wp F3s
  have dl3 := D3.2.2.2.2.2.1.2.2.2.2
  have l93 := dl3.1
  refine gG_wd (c' := gc (s 57) + c) (n' := gs (s 57) + n) (by omega) (by omega) ?_
  refine gG_callV (f := mJx4a65c_add_9ea2d) (ci := 0) (okMb_V (gMs_at (r := 194) (by decide)) (by decide)) (gDec okX8_givePages tX8_givePages_122) (gMem (i := 299) rfl rfl) rfl (by decide) rfl (c1 := gc (s 57)) (n1 := gs (s 57)) (c := c) (n := n) (As := [.ref x]) (rest := []) (d1 := d + 7) (d := d + 8) l93 rfl (by simp) (by omega) ?_
  refine j_addX (d := d) hX rfl (by omega) dl3 G3.1 (by omega) (fun h4 e4 f4 L4 he4 => ?_)
  have k09 : hK hb0 (Y 0 9 0) ≠ 0 := (Db.1 0 9 0 (And.intro (by omega) (by omega))).1
  have k19 : s 57 ≠ 0 → hK hb0 (Y 1 9 0) ≠ 0 := fun q => (Db.1 1 9 0 (And.intro rfl (by omega))).1
  have sx : SAM h3 h4 x := f4.2 x (by have := G3.1; omega) (fun q => k09 (by rw [← q]; exact hxb)) (fun c q => k19 c (by rw [← q]; exact hxb))
  have sw : SAM h3 h4 w := f4.2 w (by have := G3.2.2.2.2.2.2.1; omega) (fun q => k09 (by rw [← q]; exact w0)) (fun c q => k19 c (by rw [← q]; exact w0))
  have F4 : ∀ (ow : Nat → gTag) T, ow (Y 0 9 0) ∈ T → (s 57 ≠ 0 → ow (Y 1 9 0) ∈ T) → FRO ow T hb0 h4 := fun ow T q1 q2 => (F3o ow T ⟨_, q1⟩).t2 (f4.fro q1 q2)
  have ob := fun r i k hv => (Db.1 r i k hv).2
  have F4t : FRO ow [(0, 9, 0), (1, 9, 0)] hb0 h4 := F4 ow _ (by simp [ob 0 9 0 (And.intro (by omega) (by omega))]) (fun q => by simp [ob 1 9 0 (And.intro rfl (by omega))])
  -- the ask at h4
  obtain ⟨sb, wb, akb, dyb⟩ := Db.2.2.2.2.2.2.2.2.2.1 b hb
  have ak4 := akb.M (Db.1.sam F4t (And.intro (by omega) (by omega)) (by simp)) (Db.1.sam F4t (And.intro (by omega) (by omega)) (by simp))
  have ka4 := ak4.1.1
  have n04 : hI h4 1 0 (Y 5 b 0) = nI b := ak4.2.1.1
  have v94 : hI h4 1 8 (Y 5 b 0) = nI (cntN (fun i => a 58 i == b) (s 57)) := ak4.2.1.2.2.2.2.2.2.2.1
  have mg := Db.1.sam F4t (r := 3) (i := g) (k := 0) (And.intro (by omega) (by omega)) (by simp)
  obtain ⟨kgb, igb, rpb, rtb⟩ := Db.2.2.2.2.2.2.2.1 g hg
  have kg4 : hK h4 (Y 3 g 0) = 4 := by rw [mg.1]; exact kgb
  have rt4 : hR h4 3 2 (Y 3 g 0) = some (Y 4 (a 33 g) 0) := by rw [mg.2.2.2.1]; exact rtb
  have mt := Db.1.sam F4t (r := 4) (i := a 33 g) (k := 0) (And.intro wg.2.1 (Or.inl rfl)) (by simp)
  have dxb := Db.2.2.2.2.2.2.2.2.1 (a 33 g) wg.2.1
  have kt4 : hK h4 (Y 4 (a 33 g) 0) = 9 := by rw [mt.1]; exact dxb.2.2.1.1
  have dx4 : DX1 Y h4 a (a 33 g) := DX.K Db.1 F4t wg.2.1 (by simp) (fun _ => rfl) ⟨rfl, rfl, rfl, rfl, fun _ _ => rfl, fun _ _ => rfl, fun _ _ => rfl, fun _ _ => rfl, fun _ _ => rfl⟩ dxb
  obtain ⟨⟨it4, m, gm4, gb4⟩, jt4, tx4⟩ := dx4
  have b20 : b < 20 := by have := wa.1; omega
  have cl := cntN_le (fun i => a 58 i == b) (s 57)
  have AK := (ASK.i8 (x := Y 4 (a 33 g) 0) (w := nI (m ||| 2 ^ b)) ak4).GV (show cntN (fun i => a 58 i == b) (s 57) + 1 < 2 ^ 31 by omega)
  have e9 : akN s a b sb wb 9 = cntN (fun i => a 58 i == b) (s 57) := rfl
  rw [e9] at AK
  generalize hh6 : sI (sI h4 8 4 (Y 4 (a 33 g) 0) (nI (m ||| 2 ^ b))) 1 8 (Y 5 b 0) (nI (cntN (fun i => a 58 i == b) (s 57) + 1)) = h6 at AK
  have ff : ∀ (ow : Nat → gTag) T, ow (Y 0 9 0) ∈ T → (s 57 ≠ 0 → ow (Y 1 9 0) ∈ T) → ow (Y 5 b 0) ∈ T → ow (Y 4 (a 33 g) 0) ∈ T → FRO ow T hb0 h6 := fun ow T q1 q2 q3 q4 => by rw [← hh6]; exact ((F4 ow T q1 q2).sI (Or.inl q4)).sI (Or.inl q3)
  have dx6 : DX1 Y h6 (gvF s a rl b g) (a 33 g) := by
    have i8 : ∀ k y, k ≠ 4 → hI h6 8 k y = hI h4 8 k y := fun k y hk => by rw [← hh6, hI_sI, up3_eq, if_neg (by omega), hI_sI, up3_eq, if_neg (by omega)]
    have tx6 : TXT h6 (Y 4 (a 33 g)) (a 34 (a 37 (a 33 g))) (fun k => if k < 12 then a 35 (12 * a 37 (a 33 g) + k) else 0) (a 39 (a 33 g)) (spS a (a 33 g)) := by rw [← hh6]; exact (tx4.iI (by omega)).iI (by omega)
    refine ⟨⟨by rw [i8 0 _ (by omega)]; exact it4, m ||| 2 ^ b, ⟨?_, gv_lt gm4.2 b20⟩, fun b' hb' => ?_⟩, by rw [i8 2 _ (by omega)]; exact jt4, tx6⟩
    · rw [← hh6, hI_sI, up3_eq, if_neg (by omega), hI_sI, up3_eq, if_pos ⟨rfl, rfl, rfl⟩]
    · rw [gv_set, gvF_56s, gb4 b' hb']
  have k5x : ∀ y, hK hb0 y = 0 → y ≠ Y 5 b 0 := fun y hy q => (Db.1 5 b 0 (And.intro (by omega) (by omega))).1 (by rw [← q]; exact hy)
  have G6 : GFT h6 x w b g (s 24) (cntN (isBlk s a rl g) (a 34 g)) (a 34 g) := by
    have i2 : ∀ k y, hI h6 2 k y = hI h4 2 k y := fun k y => by rw [← hh6, hI_sI, up3_eq, if_neg (by omega), hI_sI, up3_eq, if_neg (by omega)]
    have q1 : hK h6 = hK h4 := by rw [← hh6]; rfl
    have q2 : hR h6 = hR h4 := by rw [← hh6]; rfl
    have q3 : hN h6 = hN h4 := by rw [← hh6]; rfl
    unfold GFT at G3 ⊢
    simp only [q1, q2, q3, i2, sx.1, sx.2.2.1, sx.2.2.2.1, sw.1, sw.2.1]
    exact G3
  have A6 : ∀ k, k < a 34 g → hA h6 12 w k = nI (shown s a rl g k) := fun k hk => by
    rw [← hh6, hA_sI, hA_sI, sw.2.2.2.2.1]; exact A3' k hk
  have L6 : LST E h6 (Y 0 9 0) e4 (s 57 + 1) 2 (va_up (fun i => Y 6 i 0) (s 57) x) := by
    obtain ⟨a1, a2, a3, a4, a5, a6⟩ := L4
    rw [← hh6]
    exact ⟨a1, by rw [hI_sI, up3_eq, if_neg (by omega), hI_sI, up3_eq, if_neg (by omega)]; exact a2, a3, a4, a5, a6⟩
  have da6 : DA1 Y h6 (va_up s 57 (s 57 + 1)) (gvF s a rl b g) b := by
    refine ⟨sb, wb, ?_, DAY_cg (a := a) (Nat.le_refl _) rfl rfl (fun _ _ => rfl) dyb⟩
    have e1 : akN (va_up s 57 (s 57 + 1)) (gvF s a rl b g) b sb wb = va_up (akN s a b sb wb) 9 (cntN (fun i => a 58 i == b) (s 57) + 1) := by
      funext k
      rw [va_up_eq]
      by_cases q : k = 9
      · rw [if_pos q, q]
        have := gvF_cnt (s := s) (a := a) (rl := rl) (b := b) (g := g) (b' := b)
        rw [if_pos rfl] at this
        exact this
      · rw [if_neg q]
        unfold akN
        simp only [q, if_false]
        rfl
    rw [e1]
    exact AK
  obtain ⟨Y6, ow6, D6, F6, w6, y6⟩ := DS.gft Db wp pz hb hg hxb w0 wx ff G6 A6 da6 dx6 L6 (by
    rcases he4 with q | ⟨q1, q2⟩
    · exact Or.inl q
    · refine Or.inr ⟨?_, by rw [← hh6]; exact q2, fun q => ?_, fun q => ?_⟩
      · rcases Nat.eq_zero_or_pos (hK hb0 e4) with r | r
        · exact r
        · have := (F3s.1 e4 (by omega)).1; omega
      · have := G3.1; rw [q] at this; omega
      · have := G3.2.2.2.2.2.2.1; rw [q] at this; omega)
  have ft6 : FTA Y6 h6 (va_up s 57 (s 57 + 1)) (gvF s a rl b g) := fun p hp => by
    have hp : p < s 27 := hp
    have mm := Db.1.sam (ff ow [(0, 9, 0), (1, 9, 0), (5, b, 0), (4, a 33 g, 0)] (by simp [ob 0 9 0 (And.intro (by omega) (by omega))]) (fun q => by simp [ob 1 9 0 (And.intro rfl (by omega))]) (by simp [ob 5 b 0 (And.intro (by omega) (by omega))]) (by simp [ob 4 (a 33 g) 0 (And.intro wg.2.1 (Or.inl rfl))])) (r := 2) (i := p) (k := 0) (And.intro hp (Or.inl rfl)) (by simp)
    rw [y6 2 (by omega) (by omega), mm.2.2.1]
    exact ftb p hp
  have K := hq h6 Y6 ow6 D6 ((Fb.n9 (by simp)).tr F6 (fun _ _ => rfl)) (fun b hb => w6 b (by rw [kbk]; exact hb)) y6 ft6
  refine gAx (cut := []) okX8_givePages 40 ?_
  simp only [axC_nil, axC_hit, axC_def, cutAt, lvLive, Option.isSome_none, Option.isSome_some, catS, lvGet, lvIns, lvSet1, lvSet2, gLit_0, gLit_1, lv_args, fv0, fv1, fv2, fv3, isI_s, isL_s, isRf_s, isRf_n, gtI_s, gtL_s, gtV_s, gFilter_nil, gFilter_cons, gL1, gL2, gL3, gL4, gL5, va_rf_s, va_rf_n, hK_sI, hK_sR, hK_sA, hK_sJ, hK_sO, hI_sI, hI_sR, hI_sA, hI_sJ, hI_sO, hR_sI, hR_sR, hR_sA, hR_sJ, hR_sO, hN_sI, hN_sR, hN_sA, hN_sJ, hN_sO, hA_sI, hA_sR, hA_sA, hA_sJ, hA_sO, hJ_sI, hJ_sR, hJ_sA, hJ_sJ, hJ_sO, hO_sI, hO_sR, hO_sA, hO_sJ, hO_sO, up3_eq, up2_eq, List.map_cons, List.map_nil, List.sum_cons, List.sum_nil, List.nil_append, List.cons_append, Option.toList_some, Option.toList_none, true_and, and_true, if_true, if_false, and_self, true_or, or_true, or_false, false_or, false_and, and_false, not_true_eq_false, not_false_eq_true, forall_const, reduceCtorEq, implies_true, List.contains_cons, List.contains_nil, Bool.or_false, Bool.false_or, Bool.or_true, Bool.true_or, Bool.and_true, Bool.true_and, Bool.and_false, Bool.false_and, Bool.not_true, Bool.not_false, BEq.rfl, Bool.false_eq_true, Bool.true_eq_false, eq_self, ↓reduceIte, Nat.reduceAdd, Nat.reduceEqDiff, Nat.reduceBEq, Nat.reduceLT, Nat.reduceLeDiff, Nat.reduceSub, Nat.reduceMul, Nat.reduceBNe, List.append_nil, Nat.zero_le, Nat.zero_add, Nat.zero_ne_one, Nat.one_ne_zero, false_implies, true_implies, not_false_eq_true, ne_eq, upd_e, updL_e, bI_zo, nI0z, nI1o, nI1z, nI0o, nI0q, nI1q, nm1_lt, nm1_ge, ax_iconst tX8_givePages_0, ax_istore tX8_givePages_1, ax_iconst tX8_givePages_3, ax_istore tX8_givePages_4, ax_iload tX8_givePages_6, ax_aload_n tX8_givePages_8, ax_getR tX8_givePages_9, ax_callV0 tX8_givePages_12, ax_icmp_ge tX8_givePages_15, ax_iload tX8_givePages_18, ax_iload_n tX8_givePages_20, ax_icmp_ge tX8_givePages_21, ax_aload_n tX8_givePages_24, ax_getR tX8_givePages_25, ax_iload tX8_givePages_28, ax_callV1 tX8_givePages_30, ax_checkcast tX8_givePages_33, ax_astoreR tX8_givePages_36, ax_astoreN tX8_givePages_36, ax_aload_n tX8_givePages_38, ax_ifnullR tX8_givePages_39, ax_ifnullN tX8_givePages_39, ax_aload tX8_givePages_42, ax_getR tX8_givePages_44, ax_aload_n tX8_givePages_47, ax_callV1 tX8_givePages_48, ax_if_eq tX8_givePages_51, ax_iconst tX8_givePages_54, ax_goto tX8_givePages_55, ax_iconst tX8_givePages_58, ax_istore tX8_givePages_59, ax_iload tX8_givePages_61, ax_if_eq tX8_givePages_63, ax_aload_n tX8_givePages_66, ax_aload tX8_givePages_67, ax_aload_n tX8_givePages_69, ax_callV2 tX8_givePages_70, ax_if_eq tX8_givePages_73, ax_aload_n tX8_givePages_76, ax_aload tX8_givePages_77, ax_callV1 tX8_givePages_79, ax_if_eq tX8_givePages_82, ax_aload_n tX8_givePages_85, ax_getR tX8_givePages_86, ax_new tX8_givePages_89, ax_dup tX8_givePages_92, ax_aload_n tX8_givePages_93, ax_getI tX8_givePages_94, ax_aload tX8_givePages_97, ax_aload_n tX8_givePages_99, ax_getI tX8_givePages_100, ax_aload_n tX8_givePages_103, ax_getR tX8_givePages_104, ax_aload tX8_givePages_107, ax_getR tX8_givePages_109, ax_aload_n tX8_givePages_112, ax_getI tX8_givePages_113, ax_callV2 tX8_givePages_116, ax_callI4 rfl rfl tX8_givePages_119, ax_callV1 tX8_givePages_122, ax_pop tX8_givePages_125, ax_aload tX8_givePages_126, ax_getR tX8_givePages_128, ax_aload_n tX8_givePages_131, ax_callV1 tX8_givePages_132, ax_aload_n tX8_givePages_135, ax_dup tX8_givePages_136, ax_getI tX8_givePages_137, ax_iconst tX8_givePages_140, ax_iadd tX8_givePages_141, ax_putI tX8_givePages_142, ax_iinc tX8_givePages_145, ax_iinc tX8_givePages_148, ax_goto tX8_givePages_151, ax_iload tX8_givePages_154, ax_iretI tX8_givePages_156, f_10, f_29, f_51, f_52, f_99, f_100, f_190, f_192, f_194, kg4, rt4, kt4]
  refine x_noteGivenFor (d := d + 6) kt4 gm4 ka4 n04 b20 ?_
  refine gAx (cut := [(6, [0, 1, 2, 3, 4, 5])]) okX8_givePages 40 ?_
  simp only [axC_nil, axC_hit, axC_def, cutAt, lvLive, Option.isSome_none, Option.isSome_some, catS, lvGet, lvIns, lvSet1, lvSet2, gLit_0, gLit_1, lv_args, fv0, fv1, fv2, fv3, isI_s, isL_s, isRf_s, isRf_n, gtI_s, gtL_s, gtV_s, gFilter_nil, gFilter_cons, gL1, gL2, gL3, gL4, gL5, va_rf_s, va_rf_n, hK_sI, hK_sR, hK_sA, hK_sJ, hK_sO, hI_sI, hI_sR, hI_sA, hI_sJ, hI_sO, hR_sI, hR_sR, hR_sA, hR_sJ, hR_sO, hN_sI, hN_sR, hN_sA, hN_sJ, hN_sO, hA_sI, hA_sR, hA_sA, hA_sJ, hA_sO, hJ_sI, hJ_sR, hJ_sA, hJ_sJ, hJ_sO, hO_sI, hO_sR, hO_sA, hO_sJ, hO_sO, up3_eq, up2_eq, List.map_cons, List.map_nil, List.sum_cons, List.sum_nil, List.nil_append, List.cons_append, Option.toList_some, Option.toList_none, true_and, and_true, if_true, if_false, and_self, true_or, or_true, or_false, false_or, false_and, and_false, not_true_eq_false, not_false_eq_true, forall_const, reduceCtorEq, implies_true, List.contains_cons, List.contains_nil, Bool.or_false, Bool.false_or, Bool.or_true, Bool.true_or, Bool.and_true, Bool.true_and, Bool.and_false, Bool.false_and, Bool.not_true, Bool.not_false, BEq.rfl, Bool.false_eq_true, Bool.true_eq_false, eq_self, ↓reduceIte, Nat.reduceAdd, Nat.reduceEqDiff, Nat.reduceBEq, Nat.reduceLT, Nat.reduceLeDiff, Nat.reduceSub, Nat.reduceMul, Nat.reduceBNe, List.append_nil, Nat.zero_le, Nat.zero_add, Nat.zero_ne_one, Nat.one_ne_zero, false_implies, true_implies, not_false_eq_true, ne_eq, upd_e, updL_e, bI_zo, nI0z, nI1o, nI1z, nI0o, nI0q, nI1q, nm1_lt, nm1_ge, ax_iconst tX8_givePages_0, ax_istore tX8_givePages_1, ax_iconst tX8_givePages_3, ax_istore tX8_givePages_4, ax_iload tX8_givePages_6, ax_aload_n tX8_givePages_8, ax_getR tX8_givePages_9, ax_callV0 tX8_givePages_12, ax_icmp_ge tX8_givePages_15, ax_iload tX8_givePages_18, ax_iload_n tX8_givePages_20, ax_icmp_ge tX8_givePages_21, ax_aload_n tX8_givePages_24, ax_getR tX8_givePages_25, ax_iload tX8_givePages_28, ax_callV1 tX8_givePages_30, ax_checkcast tX8_givePages_33, ax_astoreR tX8_givePages_36, ax_astoreN tX8_givePages_36, ax_aload_n tX8_givePages_38, ax_ifnullR tX8_givePages_39, ax_ifnullN tX8_givePages_39, ax_aload tX8_givePages_42, ax_getR tX8_givePages_44, ax_aload_n tX8_givePages_47, ax_callV1 tX8_givePages_48, ax_if_eq tX8_givePages_51, ax_iconst tX8_givePages_54, ax_goto tX8_givePages_55, ax_iconst tX8_givePages_58, ax_istore tX8_givePages_59, ax_iload tX8_givePages_61, ax_if_eq tX8_givePages_63, ax_aload_n tX8_givePages_66, ax_aload tX8_givePages_67, ax_aload_n tX8_givePages_69, ax_callV2 tX8_givePages_70, ax_if_eq tX8_givePages_73, ax_aload_n tX8_givePages_76, ax_aload tX8_givePages_77, ax_callV1 tX8_givePages_79, ax_if_eq tX8_givePages_82, ax_aload_n tX8_givePages_85, ax_getR tX8_givePages_86, ax_new tX8_givePages_89, ax_dup tX8_givePages_92, ax_aload_n tX8_givePages_93, ax_getI tX8_givePages_94, ax_aload tX8_givePages_97, ax_aload_n tX8_givePages_99, ax_getI tX8_givePages_100, ax_aload_n tX8_givePages_103, ax_getR tX8_givePages_104, ax_aload tX8_givePages_107, ax_getR tX8_givePages_109, ax_aload_n tX8_givePages_112, ax_getI tX8_givePages_113, ax_callV2 tX8_givePages_116, ax_callI4 rfl rfl tX8_givePages_119, ax_callV1 tX8_givePages_122, ax_pop tX8_givePages_125, ax_aload tX8_givePages_126, ax_getR tX8_givePages_128, ax_aload_n tX8_givePages_131, ax_callV1 tX8_givePages_132, ax_aload_n tX8_givePages_135, ax_dup tX8_givePages_136, ax_getI tX8_givePages_137, ax_iconst tX8_givePages_140, ax_iadd tX8_givePages_141, ax_putI tX8_givePages_142, ax_iinc tX8_givePages_145, ax_iinc tX8_givePages_148, ax_goto tX8_givePages_151, ax_iload tX8_givePages_154, ax_iretI tX8_givePages_156, f_10, f_29, f_51, f_52, f_99, f_100, f_190, f_192, f_194, ka4, v94]
  try simp (disch := omega) only [z0, o1, nI_add, pk_mul, nI_ltI, nI_leI, nI_eq, nI_clamp, vpn, pk_sub, Nat.add_sub_cancel, bI_0, bI_1, eq_self, true_or, or_true, or_false, false_or, true_and, and_true, false_and, and_false, and_self, or_self, forall_const, not_true_eq_false, not_false_eq_true, false_implies, implies_true, true_implies, ↓reduceIte, if_true, if_false, Nat.not_lt_zero, Nat.zero_le, Nat.le_refl, Nat.lt_irrefl, ne_eq, reduceCtorEq, Bool.false_eq_true]
  simp only [hh6]
  first
    | exact K
    | exact ⟨by omega, K⟩
end X8W
