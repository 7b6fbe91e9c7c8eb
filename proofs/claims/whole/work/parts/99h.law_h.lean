/-! THE LAW: its loop -/
theorem and31 (z : Int32) : ∃ k, k < 32 ∧ z &&& nI 31 = nI k := by
  refine ⟨(z.toBitVec &&& 31#32).toNat, ?_, ?_⟩
  · rw [BitVec.toNat_and]
    exact Nat.lt_of_le_of_lt Nat.and_le_right (by decide)
  · apply Int32.toBitVec_inj.mp
    show z.toBitVec &&& (nI 31).toBitVec = BitVec.ofNat 32 _
    rw [BitVec.ofNat_toNat, BitVec.setWidth_eq]
    rfl
theorem cmp7 {L i : Nat} (hL : L ≤ 3584) (hi : i ≤ 3600) : (nI L - nI 7 < nI i) ↔ L < i + 7 := by
  by_cases q : 7 ≤ L
  · rw [pk_sub q, Int32.lt_iff_toInt_lt, nI_toInt (by omega), nI_toInt (by omega)]
    omega
  · have hd : ∀ k : Fin 7, (nI k.val - nI 7).toInt < 0 := by decide
    have h1 := hd ⟨L, by omega⟩
    rw [Int32.lt_iff_toInt_lt, nI_toInt (n := i) (by omega)]
    refine ⟨fun _ => by omega, fun _ => ?_⟩
    have h2 : (nI L - nI 7).toInt < 0 := h1
    omega
section LAWH
variable {B : gB} {E mi : Nat} {x u o b L : Nat} {xa : Nat → Nat} {xs : Nat → Int32} {h : gHp} {Q : Option Value → gHp → Prop} {c n : Nat} {sK sV : Nat → Nat}
theorem lw_head {i : Nat} (hz : gXz B b L xs) (hi : i ≤ 3600) (k1 : L < i + 7 → gG B mL_law 2048 c n 1122 (lvL b u x o i) [] h Q) (k2 : i + 7 ≤ L → gG B mL_law 2048 c n 33 (lvL b u x o i) [] h Q) : gG B mL_law 2048 c n 23 (lvL b u x o i) [] h Q := by
  refine gG_iload (gDec okL_law tL_law_23) rfl (gG_aload_nR (k := 0) (gDec okL_law tL_law_25) rfl (gG_sle hz eL_law_26 (gG_bipush (v := nI 7) (gDec okL_law tL_law_27) rfl (gG_isub (gDec okL_law tL_law_29) (gG_icmp_gt (tgt := 1122) (gDec okL_law tL_law_30) rfl (fun q => ?_) (fun q => ?_))))))
  · exact k1 ((cmp7 hz.2.1 hi).mp q)
  · exact k2 (Nat.not_lt.mp (fun w => q ((cmp7 hz.2.1 hi).mpr w)))
theorem lw_next {i : Nat} (k : gG B mL_law 2048 c n 23 (lvL b u x o (i + 7)) [] h Q) : gG B mL_law 2048 c n 1116 (lvL b u x o i) [] h Q := by
  exact gG_iinc (v := nI (i + 7)) (gDec okL_law tL_law_1116) rfl (by rw [← nI_add]; rfl) (by decide) (gG_goto (tgt := 23) (gDec okL_law tL_law_1119) rfl k)
set_option maxRecDepth 100000 in
set_option maxHeartbeats 1600000 in
theorem lw_loop (hX : gXt B E mi) (hXs : gXs B sK sV) (hz : gXz B b L xs) (h20 : ∀ (i c n : Nat) (h : gHp), i + 6 < L → LIV E u x xa o h → (∀ h', LIV E u x xa o h' → gG B mL_law 2048 c n 1116 (lvL b u x o i) [] h' Q) → gG B mL_law 2048 (1 + c) (6 + n) 986 (lvL b u x o i) [] h Q) (hQ : ∀ h, Q (some (.int (nI 1))) h) : ∀ k i h, L < i + 7 * k + 7 → i ≤ L → LIV E u x xa o h → gG B mL_law 2048 (300 * k) (3900 * k) 23 (lvL b u x o i) [] h Q := by
  have hL := hz.2.1
  have hend : ∀ (i c n : Nat) (h : gHp), gG B mL_law 2048 c n 1122 (lvL b u x o i) [] h Q := fun i c n h => gG_iconst (v := nI 1) (gDec okL_law tL_law_1122) rfl (gG_iret (ty := .boolean) (gDec okL_law tL_law_1123) rfl (by decide) (hQ h))
  intro k
  induction k with
  | zero =>
    intro i h hk hi I
    exact lw_head hz (by omega) (fun _ => hend _ _ _ _) (fun q => absurd q (by omega))
  | succ k ih =>
    intro i h hk hi I
    refine lw_head hz (by omega) (fun _ => hend _ _ _ _) (fun q => ?_)
    have nx : ∀ h', LIV E u x xa o h' → gG B mL_law 2048 (300 * k) (3900 * k) 1116 (lvL b u x o i) [] h' Q := fun h' I' => lw_next (ih (i + 7) h' (by omega) q I')
    have i6 : i + 6 < L := by omega
    refine gG_aload_nR (k := 0) (gDec okL_law tL_law_33) rfl (gG_iload (gDec okL_law tL_law_34) rfl (gG_sld hz eL_law_36 (by omega) (gG_bipush (v := nI 31) (gDec okL_law tL_law_37) rfl (gG_iand (gDec okL_law tL_law_39) ?_))))
    obtain ⟨y, hy, ey⟩ := and31 (xs i)
    rw [ey]
    by_cases q0 : y = 0
    · subst q0
      exact gG_tswIn (tgt := 148) eL_law_40 (by decide) (by decide) rfl rfl (gG_wd (c' := 0 + 300 * k) (n' := 0 + 3900 * k) (by omega) (by omega) (lc_0 hX hz i6 I nx))
    by_cases q1 : y = 1
    · subst q1
      exact gG_tswIn (tgt := 173) eL_law_40 (by decide) (by decide) rfl rfl (gG_wd (c' := 0 + 300 * k) (n' := 0 + 3900 * k) (by omega) (by omega) (lc_1 hX hz i6 I nx))
    by_cases q2 : y = 2
    · subst q2
      exact gG_tswIn (tgt := 198) eL_law_40 (by decide) (by decide) rfl rfl (gG_wd (c' := 0 + 300 * k) (n' := 0 + 3900 * k) (by omega) (by omega) (lc_2 hX hz i6 I nx))
    by_cases q3 : y = 3
    · subst q3
      exact gG_tswIn (tgt := 223) eL_law_40 (by decide) (by decide) rfl rfl (gG_wd (c' := 12 + 300 * k) (n' := 1700 + 3900 * k) (by omega) (by omega) (lc_3 hX hz i6 I nx))
    by_cases q4 : y = 4
    · subst q4
      exact gG_tswIn (tgt := 260) eL_law_40 (by decide) (by decide) rfl rfl (gG_wd (c' := 9 + 300 * k) (n' := 1300 + 3900 * k) (by omega) (by omega) (lc_4 hX hz i6 I nx))
    by_cases q5 : y = 5
    · subst q5
      exact gG_tswIn (tgt := 285) eL_law_40 (by decide) (by decide) rfl rfl (gG_wd (c' := 0 + 300 * k) (n' := 0 + 3900 * k) (by omega) (by omega) (lc_5 hX hz i6 I nx))
    by_cases q6 : y = 6
    · subst q6
      exact gG_tswIn (tgt := 350) eL_law_40 (by decide) (by decide) rfl rfl (gG_wd (c' := 0 + 300 * k) (n' := 0 + 3900 * k) (by omega) (by omega) (lc_6 hX hz i6 I nx))
    by_cases q7 : y = 7
    · subst q7
      exact gG_tswIn (tgt := 375) eL_law_40 (by decide) (by decide) rfl rfl (gG_wd (c' := 0 + 300 * k) (n' := 0 + 3900 * k) (by omega) (by omega) (lc_7 hX hz i6 I nx))
    by_cases q8 : y = 8
    · subst q8
      exact gG_tswIn (tgt := 428) eL_law_40 (by decide) (by decide) rfl rfl (gG_wd (c' := 0 + 300 * k) (n' := 0 + 3900 * k) (by omega) (by omega) (lc_8 hX hz i6 I nx))
    by_cases q9 : y = 9
    · subst q9
      exact gG_tswIn (tgt := 489) eL_law_40 (by decide) (by decide) rfl rfl (gG_wd (c' := 0 + 300 * k) (n' := 0 + 3900 * k) (by omega) (by omega) (lc_9 hX hz i6 I nx))
    by_cases q10 : y = 10
    · subst q10
      exact gG_tswIn (tgt := 526) eL_law_40 (by decide) (by decide) rfl rfl (gG_wd (c' := 0 + 300 * k) (n' := 0 + 3900 * k) (by omega) (by omega) (lc_10 hX hz i6 I nx))
    by_cases q11 : y = 11
    · subst q11
      exact gG_tswIn (tgt := 673) eL_law_40 (by decide) (by decide) rfl rfl (gG_wd (c' := 1 + 300 * k) (n' := 5 + 3900 * k) (by omega) (by omega) (lc_11 hXs I nx))
    by_cases q12 : y = 12
    · subst q12
      exact gG_tswIn (tgt := 686) eL_law_40 (by decide) (by decide) rfl rfl (gG_wd (c' := 4 + 300 * k) (n' := 600 + 3900 * k) (by omega) (by omega) (lc_12 hX hz i6 I nx))
    by_cases q13 : y = 13
    · subst q13
      exact gG_tswIn (tgt := 735) eL_law_40 (by decide) (by decide) rfl rfl (gG_wd (c' := 0 + 300 * k) (n' := 0 + 3900 * k) (by omega) (by omega) (lc_13 hX hz i6 I nx))
    by_cases q14 : y = 14
    · subst q14
      exact gG_tswIn (tgt := 772) eL_law_40 (by decide) (by decide) rfl rfl (gG_wd (c' := 0 + 300 * k) (n' := 0 + 3900 * k) (by omega) (by omega) (lc_14 hX hz i6 I nx))
    by_cases q15 : y = 15
    · subst q15
      exact gG_tswIn (tgt := 825) eL_law_40 (by decide) (by decide) rfl rfl (gG_wd (c' := 0 + 300 * k) (n' := 0 + 3900 * k) (by omega) (by omega) (lc_15 hX hz i6 I nx))
    by_cases q16 : y = 16
    · subst q16
      exact gG_tswIn (tgt := 850) eL_law_40 (by decide) (by decide) rfl rfl (gG_wd (c' := 0 + 300 * k) (n' := 0 + 3900 * k) (by omega) (by omega) (lc_16 hX hz i6 I nx))
    by_cases q17 : y = 17
    · subst q17
      exact gG_tswIn (tgt := 875) eL_law_40 (by decide) (by decide) rfl rfl (gG_wd (c' := 0 + 300 * k) (n' := 0 + 3900 * k) (by omega) (by omega) (lc_17 hX hz i6 I nx))
    by_cases q18 : y = 18
    · subst q18
      exact gG_tswIn (tgt := 912) eL_law_40 (by decide) (by decide) rfl rfl (gG_wd (c' := 300 + 300 * k) (n' := 3900 + 3900 * k) (by omega) (by omega) (lc_18 hX hz i6 I nx))
    by_cases q19 : y = 19
    · subst q19
      exact gG_tswIn (tgt := 949) eL_law_40 (by decide) (by decide) rfl rfl (gG_wd (c' := 0 + 300 * k) (n' := 0 + 3900 * k) (by omega) (by omega) (lc_19 hX hz i6 I nx))
    by_cases q20 : y = 20
    · subst q20
      exact gG_tswIn (tgt := 986) eL_law_40 (by decide) (by decide) rfl rfl (gG_wd (c' := 1 + 300 * k) (n' := 6 + 3900 * k) (by omega) (by omega) (h20 i _ _ h i6 I nx))
    by_cases q21 : y = 21
    · subst q21
      exact gG_tswIn (tgt := 1054) eL_law_40 (by decide) (by decide) rfl rfl (gG_wd (c' := 0 + 300 * k) (n' := 0 + 3900 * k) (by omega) (by omega) (lc_21 hX hz i6 I nx))
    by_cases q22 : y = 22
    · subst q22
      exact gG_tswIn (tgt := 1091) eL_law_40 (by decide) (by decide) rfl rfl (gG_wd (c' := 0 + 300 * k) (n' := 0 + 3900 * k) (by omega) (by omega) (lc_22 hX hz i6 I nx))
    exact gG_tswOut (tgt := 1116) eL_law_40 (Or.inr (by rw [nI_toInt (by omega)]; omega)) rfl (gG_wd (c' := 300 * k) (n' := 3900 * k) (by omega) (by omega) (nx h I))
end LAWH
