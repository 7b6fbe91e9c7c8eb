/-! THE LAW: the case look -/
section LAWM
variable {B : gB} {E mi : Nat} {x u o b L i : Nat} {xa : Nat → Nat} {xs : Nat → Int32} {h : gHp} {Q : Option Value → gHp → Prop} {c n : Nat} {Y : gYm} {ow : Nat → gTag} {v : Nat} {rl : List (Nat × List (Nat × Nat))} {s : Nat → Nat} {a : Nat → Nat → Nat}
set_option maxRecDepth 100000 in
set_option maxHeartbeats 1600000 in
theorem DS.jK {t : Nat} {f : Nat → Int64} (hd : DS E Y ow v rl h s a) : DS E Y ow v rl (sJ h t o f) s a := by
  simp only [DS, OWN, D0, DF, DT, DB, DL, DP, DG, DX, DX1, GVF, GVN, DA, DA1, DH, DH1, DU, DR, TXT, ASK, LST, TAP, RUO, RUS, PAP, hK_sJ, hI_sJ, hR_sJ, hN_sJ, hA_sJ, hO_sJ]
  exact hd
theorem RS.j13 {f : Nat → Int64} (hr : RS x xa h s a) (ko : hK h o = 13) : RS x xa (sJ h 13 o f) s a := by
  have sm : ∀ y, y ≠ o → SAM h (sJ h 13 o f) y := fun y hy => ⟨rfl, rfl, fun _ _ => rfl, fun _ _ => rfl, fun _ => rfl, fun t => by rw [hJ_sJ, up2_eq, if_neg (fun q => hy q.2)], rfl⟩
  refine hr.sm (sm x (fun e => ?_)) (fun k q => sm _ (fun e => ?_))
  · have := hr.1.1
    rw [e, ko] at this
    omega
  · have := hr.1.2.2.1 k q
    rw [e, ko] at this
    have hd : ∀ i : Fin 64, gIsR 10 i.val = true → rK i.val ≠ 13 := by decide
    exact hd ⟨k, ir_lt q⟩ q this.symm
abbrev lvM (b u x o i : Nat) (r : Int32) : List (Nat × Value) := [(0, .ref b), (1, .ref u), (2, .ref x), (3, .ref o), (4, .int (nI i)), (5, .int r)]
abbrev lvN (b u x o i : Nat) (r w : Int32) : List (Nat × Value) := [(0, .ref b), (1, .ref u), (2, .ref x), (3, .ref o), (4, .int (nI i)), (5, .int r), (6, .int w)]
set_option maxRecDepth 100000 in
/-- the law behind its own look: the reference's -/
theorem lk_B {r : Int32} (hz : gXz B b L xs) (hi : i + 6 < L) (k0 : hK h x = 10 + 1) (K : gFn B mX9_look (0 + 8) 0 0 [.ref x, .int (xs (i + 1)), .int (xs (i + 2))] h (fun v h2 => gG B mL_law 2048 c n (1018 + 3) (lvM b u x o i r) (v.toList ++ []) h2 Q)) : gG B mL_law 2048 c n 1003 (lvL b u x o i) [.int r] h Q := by
  refine gG_istore (gDec okL_law tL_law_1003) (by decide) ?_
  refine gG_aload_nR (k := 2) (gDec okL_law tL_law_1005) rfl ?_
  refine sc_I (k := 1) hz (gDec okL_law tL_law_1006) (gDec okL_law tL_law_1007) (gDec okL_law tL_law_1009) (gDec okL_law tL_law_1010) eL_law_1011 rfl rfl rfl (by omega) ?_
  refine sc_I (k := 2) hz (gDec okL_law tL_law_1012) (gDec okL_law tL_law_1013) (gDec okL_law tL_law_1015) (gDec okL_law tL_law_1016) eL_law_1017 rfl rfl rfl (by omega) ?_
  refine gG_wd (c' := 0 + c) (n' := 0 + n) (by omega) (by omega) ?_
  exact gG_callV (f := mX9_look) (ci := 10) (okMb_V (gMs_at (r := 172) (by decide)) (by decide)) (gDec okL_law tL_law_1018) (gMem (i := 1499) rfl rfl) rfl (by decide) rfl (c1 := 0) (n1 := 0) (c := c) (n := n) (As := [.int (xs (i + 1)), .int (xs (i + 2))]) (rest := []) (d1 := 0 + 8) (d := 2048) k0 rfl (by simp) (by omega) K
set_option maxRecDepth 100000 in
theorem lk_C {r w : Int32} (hr : RS x xa h s a) (K : gG B mL_law 2048 c n 1027 (lvN b u x o i r w) [.int (hI h 10 0 x)] h Q) : gG B mL_law 2048 c n 1021 (lvM b u x o i r) [.int w] h Q := by
  refine gG_istore (gDec okL_law tL_law_1021) (by decide) ?_
  refine gG_aload_nR (k := 2) (gDec okL_law tL_law_1023) rfl ?_
  refine gG_wd (c' := 0 + c) (n' := 0 + n) (by omega) (by omega) ?_
  exact gG_callV (f := mX9_thrown) (ci := 10) (okMb_V (gMs_at (r := 103) (by decide)) (by decide)) (gDec okL_law tL_law_1024) (gMem (i := 1234) rfl rfl) rfl (by decide) rfl (c1 := 0) (n1 := 0) (c := c) (n := n) (As := []) (rest := []) (d1 := 0 + 1) (d := 2048) hr.1.1 rfl (by simp) (by omega) (r_thrown (d := 0) hr K)
theorem lk_end {r w : Int32} (K : gG B mL_law 2048 c n 1116 (lvL b u x o i) [] h Q) : gG B mL_law 2048 c n 1051 (lvN b u x o i r w) [] h Q := gG_goto (tgt := 1116) (gDec okL_law tL_law_1051) rfl (gG_sub (fun q hq => List.mem_append_left [(5, Value.int r), (6, Value.int w)] hq) K)
theorem lk_D1 {w : Int32} (K : gG B mL_law 2048 c n 1116 (lvL b u x o i) [] h Q) : gG B mL_law 2048 c n 1027 (lvN b u x o i (nI 1) w) [.int (nI 1)] h Q := by
  refine gG_iload (gDec okL_law tL_law_1027) rfl (gG_icmp_eq (tgt := 1034) (gDec okL_law tL_law_1029) rfl (fun _ => ?_) (fun q => absurd rfl q))
  refine gG_iload (gDec okL_law tL_law_1034) rfl (gG_if_ne (tgt := 1051) (gDec okL_law tL_law_1036) rfl (fun _ => lk_end K) (fun q => absurd q (by decide)))
theorem lk_D0 {w : Int32} (ko : hK h o = 13) (no : hN h o = 1) (hv : hJ h 13 o (nI 0).toNatClampNeg = w.toInt64) (K : gG B mL_law 2048 c n 1116 (lvL b u x o i) [] h Q) : gG B mL_law 2048 c n 1027 (lvN b u x o i (nI 0) w) [.int (nI 0)] h Q := by
  refine gG_iload (gDec okL_law tL_law_1027) rfl (gG_icmp_eq (tgt := 1034) (gDec okL_law tL_law_1029) rfl (fun _ => ?_) (fun q => absurd rfl q))
  refine gG_iload (gDec okL_law tL_law_1034) rfl (gG_if_ne (tgt := 1051) (gDec okL_law tL_law_1036) rfl (fun q => absurd rfl q) (fun _ => ?_))
  refine gG_aload_nR (k := 3) (gDec okL_law tL_law_1039) rfl (gG_iconst (v := nI 0) (gDec okL_law tL_law_1040) rfl (gG_lald (t := 13) (gDec okL_law tL_law_1041) (Or.inl rfl) ko (by rw [no]; exact (vpn (by omega) (by omega)).mpr (by omega)) ?_))
  rw [hv]
  refine gG_iload (gDec okL_law tL_law_1042) rfl (gG_i2l (gDec okL_law tL_law_1044) (gG_lcmp (gDec okL_law tL_law_1045) (gG_if_eq (tgt := 1051) (gDec okL_law tL_law_1046) rfl (fun _ => lk_end K) (fun q => absurd ?_ q))))
  unfold lg_cmp
  rw [if_neg (fun q => absurd q (Int64.lt_irrefl)), if_pos rfl]
set_option maxRecDepth 100000 in
set_option maxHeartbeats 1600000 in
theorem lc_20 (hXx : gXx B) (hz : gXz B b L xs) (hi : i + 6 < L) (I : LIV E u x xa o h) (hq : ∀ h', LIV E u x xa o h' → gG B mL_law 2048 c n 1116 (lvL b u x o i) [] h' Q) : gG B mL_law 2048 (1 + c) (6 + n) 986 (lvL b u x o i) [] h Q := by
  obtain ⟨Y, ow, v, rl, s, a, hd, hu, hr, tg, J, ko, no⟩ := I
  subst hu
  have h46 := J.2.1.1
  have h57 : s 57 ≤ 300 := by have := J.2.2.1.2.2.2.2; omega
  refine gG_aload_nR (k := 1) (gDec okL_law tL_law_986) rfl ?_
  refine sc_I (k := 1) hz (gDec okL_law tL_law_987) (gDec okL_law tL_law_988) (gDec okL_law tL_law_990) (gDec okL_law tL_law_991) eL_law_992 rfl rfl rfl (by omega) ?_
  refine sc_I (k := 2) hz (gDec okL_law tL_law_993) (gDec okL_law tL_law_994) (gDec okL_law tL_law_996) (gDec okL_law tL_law_997) eL_law_998 rfl rfl rfl (by omega) ?_
  refine gG_aload_nR (k := 3) (gDec okL_law tL_law_999) rfl ?_
  refine gG_callH (d1 := 0 + 9) (d := 2048) (c1 := 1) (n1 := 6) (c := c) (n := n) (As := [.ref (Y 0 0 0), .int (xs (i + 1)), .int (xs (i + 2)), .ref o]) (rest := []) rfl eL_law_1000 rfl (by simp) (by omega) ?_
  by_cases hg : (∃ p, p < s 46 ∧ xs (i + 1) = nI p) ∧ (∃ k, k < 8 ∧ xs (i + 2) = nI k)
  · obtain ⟨⟨p, hp, ep⟩, k, hk, ek⟩ := hg
    have K9 : ∀ h1, DS E Y ow v rl h1 s a → RS x xa h1 s a → hK h1 o = 13 → hN h1 o = 1 → hJ h1 13 o (nI 0).toNatClampNeg = (lkW s a rl p k).toInt64 → gG B mL_law 2048 c n 1003 (lvL b (Y 0 0 0) x o i) [.int (nI 0)] h1 Q := fun h1 D1 R1 k1 n1 j1 => by
      refine lk_B hz hi R1.1.1 (r_look (d := 0) R1 J.1 J.2.1 J.2.2.2.2.1.1 h57 J.2.2.2.2.2.2.2.1 J.2.2.2.2.2.2.2.2.1 J.2.2.2.2.2.2.2.2.2.1 _ _ (fun p2 k2 a' h2 e1 e2 e3 e4 R2 ha h62 rp et => ?_) (fun h2 g R2 rp et => ?_))
      · obtain rfl := nj (by omega) (by omega) ep e1
        obtain rfl := nj (by omega) (by omega) ek e3
        refine gG_t (lk_C R2 ?_)
        rw [et]
        refine lk_D0 (by rw [rp.1]; exact k1) (by rw [rp.2.2.1]; exact n1) (by rw [rp.2.2.2.2.2.2 13 (by omega)]; exact j1) (hq h2 ?_)
        have wpp : ∀ g, g < s 31 → a 32 g < s 27 ∧ a 33 g < s 36 := fun g hg => ⟨(J.1.2.2.2.1 g hg).1, (J.1.2.2.2.1 g hg).2.1⟩
        exact LIV.mk (D1.cg wpp (fun _ _ => rfl) (fun k j e => ha k j (by omega) (by omega))) rfl rp R2 tg (J_look J ha h62) k1 n1
      · rcases g with g | g
        · exact absurd ep (g p hp)
        · exact absurd ek (g k hk)
    rw [ep, ek]
    refine gFh_gG (Nat.le_of_ble_eq_true rfl) ?_
    refine gG_aload_nR (k := 3) (gDec okL_look tL_look_0) rfl (gG_iconst (v := nI 0) (gDec okL_look tL_look_1) rfl (gG_aload_nR (k := 0) (gDec okL_look tL_look_2) rfl (gG_iload_n (k := 1) (gDec okL_look tL_look_3) rfl (gG_iload_n (k := 2) (gDec okL_look tL_look_4) rfl ?_))))
    refine gG_wd (c' := 0 + 1) (n' := 0 + 6) (by omega) (by omega) ?_
    refine gG_callV (f := mX8_look) (ci := 9) (okMb_V (gMs_at (r := 80) (by decide)) (by decide)) (gDec okL_look tL_look_5) (gMem (i := 945) rfl rfl) rfl (by decide) rfl (c1 := 0) (n1 := 0) (c := 1) (n := 6) (As := [.int (nI p), .int (nI k)]) (rest := [.int (nI 0), .ref o]) (d1 := 0 + 8) (d := 0 + 9) hd.2.1.1 rfl (by simp [Value.category]) (by omega) ?_
    refine x_look (d := 0) hd J.1 J.2.1 J.2.2.2.1 J.2.2.2.2.1.2.2 hp hk (fun h1 D1 f1 => ?_)
    obtain ⟨hr1, ko1, no1, -⟩ := hr.f9 tg ko no (f1.n9 (by simp [scT, ruS]))
    refine gG_t (gG_i2l (gDec okL_look tL_look_8) (gG_last (t := 13) (gDec okL_look tL_look_9) (Or.inl rfl) ko1 (by rw [no1]; exact (vpn (by omega) (by omega)).mpr (by omega)) (gG_goto (tgt := 17) (gDec okL_look tL_look_10) rfl (gG_iconst (v := nI 0) (gDec okL_look tL_look_17) rfl (gG_iret (ty := .int) (gDec okL_look tL_look_18) rfl (by decide) ?_)))))
    refine gG_t (K9 _ D1.jK (hr1.j13 ko1) ko1 no1 ?_)
    rw [hJ_sJ, up2_eq, if_pos ⟨rfl, rfl⟩]
    exact if_pos rfl
  · have hbad : (∀ p, p < s 46 → ¬ xs (i + 1) = nI p) ∨ (∀ k, k < 8 → ¬ xs (i + 2) = nI k) := by
      by_cases w : ∃ p, p < s 46 ∧ xs (i + 1) = nI p
      · exact Or.inr (fun k hk e => hg ⟨w, k, hk, e⟩)
      · exact Or.inl (fun p hp e => w ⟨p, hp, e⟩)
    refine lk_X (d := 0) (XQ := fun h' => h' = h) hXx hd.2.1.1 (fun hEx => x_lookX (d := 0) hXx hd J.1 _ _ hbad rfl hEx) (fun h' e => ?_)
    subst e
    refine gG_t (lk_B hz hi hr.1.1 (r_look (d := 0) hr J.1 J.2.1 J.2.2.2.2.1.1 h57 J.2.2.2.2.2.2.2.1 J.2.2.2.2.2.2.2.2.1 J.2.2.2.2.2.2.2.2.2.1 _ _ (fun p2 k2 a' h2 e1 e2 e3 e4 R2 ha h62 rp et => ?_) (fun h2 g R2 rp et => ?_)))
    · rcases hbad with w | w
      · exact absurd e1 (w p2 e2)
      · exact absurd e3 (w k2 e4)
    · refine gG_t (lk_C R2 ?_)
      rw [et]
      exact lk_D1 (hq h2 (LIV.mk hd rfl rp R2 tg J ko no))
end LAWM
