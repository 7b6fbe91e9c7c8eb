/-! THE LAW: the other cases -/
def zb (w : Int32) : Nat := if w = 0 then 0 else 1
theorem zb_le (w : Int32) : zb w ≤ 1 := by unfold zb; split <;> omega
abbrev lwd (p q : Int32) : Int64 := (p.toInt64 <<< ((nI 32).toInt64 &&& 63)) ||| (q.toInt64 &&& lN 4294967295)
section LAWG
variable {B : gB} {E mi : Nat} {x u o b L i : Nat} {xa : Nat → Nat} {xs : Nat → Int32} {h h1 h2 : gHp} {Q : Option Value → gHp → Prop} {c n : Nat} {sK sV : Nat → Nat}
theorem sc_Z {m : gM} {d pc : Nat} {w : Int32} {lv : List (Nat × Value)} {st : List Value} (d1 : decode (gCd m) pc = .ok (.ifCond .eq 7, 3)) (d2 : decode (gCd m) (pc + 3) = .ok (.iconst 1, 1)) (d3 : decode (gCd m) (pc + 4) = .ok (.goto 4, 3)) (d4 : decode (gCd m) (pc + 7) = .ok (.iconst 0, 1)) (kk : gG B m d c n (pc + 8) lv (.int (nI (zb w)) :: st) h Q) : gG B m d c n pc lv (.int w :: st) h Q :=
  gG_if_eq (tgt := pc + 7) d1 (by omega) (fun e => gG_iconst (v := nI (zb w)) d4 (by rw [zb, if_pos e]; rfl) kk) (fun e => gG_iconst (v := nI (zb w)) d2 (by rw [zb, if_neg e]; rfl) (gG_goto (tgt := pc + 8) d3 (by omega) kk))
set_option maxRecDepth 100000 in
set_option maxHeartbeats 1600000 in
theorem lc_15 (hX : gXt B E mi) (hz : gXz B b L xs) (hi : i + 6 < L) (I : LIV E u x xa o h) (hq : ∀ h', LIV E u x xa o h' → gG B mL_law 2048 c n 1116 (lvL b u x o i) [] h' Q) : gG B mL_law 2048 (0 + c) (0 + n) 825 (lvL b u x o i) [] h Q := by
  obtain ⟨Y, ow, v, rl, s, a, hd, hu, hr, tg, J, ko, no⟩ := I
  subst hu
  refine gG_aload_nR (k := 1) (gDec okL_law tL_law_825) rfl ?_
  refine sc_I (k := 1) hz (gDec okL_law tL_law_826) (gDec okL_law tL_law_827) (gDec okL_law tL_law_829) (gDec okL_law tL_law_830) eL_law_831 rfl rfl rfl (by omega) ?_
  refine gG_callV (f := mX8_due) (ci := 9) (okMb_V (gMs_at (r := 75) (by decide)) (by decide)) (gDec okL_law tL_law_832) (gMem (i := 844) rfl rfl) rfl (by decide) rfl (c1 := 0) (n1 := 0) (c := c) (n := n) (As := [.int (xs (i + 1))]) (rest := []) (d1 := 0 + 5) (d := 2048) hd.2.1.1 rfl (by simp [Value.category]) (by omega) ?_
  refine x_due (d := 0) hd J.1 _ (fun p e1 e2 e3 => ?_) (fun e => ?_) J.2.1.1
  · refine gG_t ?_
    have hr1 := hr
    refine gG_aload_nR (k := 2) (gDec okL_law tL_law_835) rfl ?_
    refine sc_I (k := 1) hz (gDec okL_law tL_law_836) (gDec okL_law tL_law_837) (gDec okL_law tL_law_839) (gDec okL_law tL_law_840) eL_law_841 rfl rfl rfl (by omega) ?_
    refine gG_wd (c' := 0 + c) (n' := 0 + n) (by omega) (by omega) ?_
    refine gG_callV (f := mX9_due) (ci := 10) (okMb_V (gMs_at (r := 163) (by decide)) (by decide)) (gDec okL_law tL_law_842) (gMem (i := 1467) rfl rfl) rfl (by decide) rfl (c1 := 0) (n1 := 0) (c := c) (n := n) (As := [.int (xs (i + 1))]) (rest := [.int (nI (dueR a p 4999 0 (a 52 p)))]) (d1 := 0 + 2) (d := 2048) hr1.1.1 rfl (by simp [Value.category]) (by omega) ?_
    refine r_due (d := 0) hr1 J.1 J.2.1 J.2.2.2.2.2.2.2.1 _ (fun p2 h2 g1 g2 g3 R rp => ?_) (fun h2 g R rp => ?_)
    · have c46 := J.2.1.1
      obtain rfl := nj (by omega) (by omega) e1 g1
      refine gG_t (lEq (gDec okL_law tL_law_845) rfl (hq h2 (LIV.mk hd rfl rp R tg J ko no)))
    · exact absurd e3 (fun w => g p e1 e2 w)
  · refine gG_t ?_
    have hr1 := hr
    refine gG_aload_nR (k := 2) (gDec okL_law tL_law_835) rfl ?_
    refine sc_I (k := 1) hz (gDec okL_law tL_law_836) (gDec okL_law tL_law_837) (gDec okL_law tL_law_839) (gDec okL_law tL_law_840) eL_law_841 rfl rfl rfl (by omega) ?_
    refine gG_wd (c' := 0 + c) (n' := 0 + n) (by omega) (by omega) ?_
    refine gG_callV (f := mX9_due) (ci := 10) (okMb_V (gMs_at (r := 163) (by decide)) (by decide)) (gDec okL_law tL_law_842) (gMem (i := 1467) rfl rfl) rfl (by decide) rfl (c1 := 0) (n1 := 0) (c := c) (n := n) (As := [.int (xs (i + 1))]) (rest := [.int (-nI 1)]) (d1 := 0 + 2) (d := 2048) hr1.1.1 rfl (by simp [Value.category]) (by omega) ?_
    refine r_due (d := 0) hr1 J.1 J.2.1 J.2.2.2.2.2.2.2.1 _ (fun p2 h2 g1 g2 g3 R rp => ?_) (fun h2 g R rp => ?_)
    · exact absurd g3 (fun w => e p2 g1 g2 w)
    · refine gG_t (lEq (gDec okL_law tL_law_845) rfl (hq h2 (LIV.mk hd rfl rp R tg J ko no)))
set_option maxRecDepth 100000 in
set_option maxHeartbeats 1600000 in
theorem lc_7 (hX : gXt B E mi) (hz : gXz B b L xs) (hi : i + 6 < L) (I : LIV E u x xa o h) (hq : ∀ h', LIV E u x xa o h' → gG B mL_law 2048 c n 1116 (lvL b u x o i) [] h' Q) : gG B mL_law 2048 (0 + c) (0 + n) 375 (lvL b u x o i) [] h Q := by
  obtain ⟨Y, ow, v, rl, s, a, hd, hu, hr, tg, J, ko, no⟩ := I
  subst hu
  refine gG_aload_nR (k := 1) (gDec okL_law tL_law_375) rfl ?_
  refine sc_I (k := 1) hz (gDec okL_law tL_law_376) (gDec okL_law tL_law_377) (gDec okL_law tL_law_379) (gDec okL_law tL_law_380) eL_law_381 rfl rfl rfl (by omega) ?_
  refine sc_I (k := 2) hz (gDec okL_law tL_law_382) (gDec okL_law tL_law_383) (gDec okL_law tL_law_385) (gDec okL_law tL_law_386) eL_law_387 rfl rfl rfl (by omega) ?_
  refine sc_Z (gDec okL_law tL_law_388) (gDec okL_law tL_law_391) (gDec okL_law tL_law_392) (gDec okL_law tL_law_395) ?_
  refine gG_callV (f := mX8_judge) (ci := 9) (okMb_V (gMs_at (r := 67) (by decide)) (by decide)) (gDec okL_law tL_law_396) (gMem (i := 474) rfl rfl) rfl (by decide) rfl (c1 := 0) (n1 := 0) (c := c) (n := n) (As := [.int (xs (i + 1)), .int (nI (zb (xs (i + 2))))]) (rest := []) (d1 := 0 + 5) (d := 2048) hd.2.1.1 rfl (by simp [Value.category]) (by omega) ?_
  refine x_judge (d := 0) hd J.1 _ _ (zb_le _) (fun p h1 e1 e2 D f => ?_) (fun e => ?_)
  · refine gG_t ?_
    obtain ⟨hr1, ko1, no1, -⟩ := hr.f9 tg ko no (f.n9 (by simp [scT, ruS]))
    refine gG_aload_nR (k := 2) (gDec okL_law tL_law_399) rfl ?_
    refine sc_I (k := 1) hz (gDec okL_law tL_law_400) (gDec okL_law tL_law_401) (gDec okL_law tL_law_403) (gDec okL_law tL_law_404) eL_law_405 rfl rfl rfl (by omega) ?_
    refine sc_I (k := 2) hz (gDec okL_law tL_law_406) (gDec okL_law tL_law_407) (gDec okL_law tL_law_409) (gDec okL_law tL_law_410) eL_law_411 rfl rfl rfl (by omega) ?_
    refine sc_Z (gDec okL_law tL_law_412) (gDec okL_law tL_law_415) (gDec okL_law tL_law_416) (gDec okL_law tL_law_419) ?_
    refine gG_wd (c' := 0 + c) (n' := 0 + n) (by omega) (by omega) ?_
    refine gG_callV (f := mX9_judge) (ci := 10) (okMb_V (gMs_at (r := 141) (by decide)) (by decide)) (gDec okL_law tL_law_420) (gMem (i := 1372) rfl rfl) rfl (by decide) rfl (c1 := 0) (n1 := 0) (c := c) (n := n) (As := [.int (xs (i + 1)), .int (nI (zb (xs (i + 2))))]) (rest := [.int (nI 1)]) (d1 := 0 + 2) (d := 2048) hr1.1.1 rfl (by simp [Value.category]) (by omega) ?_
    refine r_judge (d := 0) hr1 (Nat.le_trans J.1.1.2.2.2.2.2.1 J.1.1.2.2.2.2.1) _ _ (zb_le _) (fun p2 h2 g1 g2 R rp => ?_) (fun h2 g R rp => ?_)
    · have c36 := J.1.1.2.2.2.2.2.1
      have c31 := J.1.1.2.2.2.2.1
      obtain rfl := nj (by omega) (by omega) e1 g1
      refine gG_t (lEq (gDec okL_law tL_law_423) rfl (hq h2 (LIV.mk D rfl rp R tg (J_judge J e2 (zb_le _)) ko1 no1)))
    · exact absurd e1 (g p e2)
  · refine gG_t ?_
    have hr1 := hr
    refine gG_aload_nR (k := 2) (gDec okL_law tL_law_399) rfl ?_
    refine sc_I (k := 1) hz (gDec okL_law tL_law_400) (gDec okL_law tL_law_401) (gDec okL_law tL_law_403) (gDec okL_law tL_law_404) eL_law_405 rfl rfl rfl (by omega) ?_
    refine sc_I (k := 2) hz (gDec okL_law tL_law_406) (gDec okL_law tL_law_407) (gDec okL_law tL_law_409) (gDec okL_law tL_law_410) eL_law_411 rfl rfl rfl (by omega) ?_
    refine sc_Z (gDec okL_law tL_law_412) (gDec okL_law tL_law_415) (gDec okL_law tL_law_416) (gDec okL_law tL_law_419) ?_
    refine gG_wd (c' := 0 + c) (n' := 0 + n) (by omega) (by omega) ?_
    refine gG_callV (f := mX9_judge) (ci := 10) (okMb_V (gMs_at (r := 141) (by decide)) (by decide)) (gDec okL_law tL_law_420) (gMem (i := 1372) rfl rfl) rfl (by decide) rfl (c1 := 0) (n1 := 0) (c := c) (n := n) (As := [.int (xs (i + 1)), .int (nI (zb (xs (i + 2))))]) (rest := [.int (nI 0)]) (d1 := 0 + 2) (d := 2048) hr1.1.1 rfl (by simp [Value.category]) (by omega) ?_
    refine r_judge (d := 0) hr1 (Nat.le_trans J.1.1.2.2.2.2.2.1 J.1.1.2.2.2.2.1) _ _ (zb_le _) (fun p2 h2 g1 g2 R rp => ?_) (fun h2 g R rp => ?_)
    · exact absurd g1 (e p2 g2)
    · refine gG_t (lEq (gDec okL_law tL_law_423) rfl (hq h2 (LIV.mk hd rfl rp R tg J ko no)))
set_option maxRecDepth 100000 in
set_option maxHeartbeats 1600000 in
theorem lc_5 (hX : gXt B E mi) (hz : gXz B b L xs) (hi : i + 6 < L) (I : LIV E u x xa o h) (hq : ∀ h', LIV E u x xa o h' → gG B mL_law 2048 c n 1116 (lvL b u x o i) [] h' Q) : gG B mL_law 2048 (0 + c) (0 + n) 285 (lvL b u x o i) [] h Q := by
  obtain ⟨Y, ow, v, rl, s, a, hd, hu, hr, tg, J, ko, no⟩ := I
  subst hu
  refine gG_aload_nR (k := 1) (gDec okL_law tL_law_285) rfl ?_
  refine sc_I (k := 1) hz (gDec okL_law tL_law_286) (gDec okL_law tL_law_287) (gDec okL_law tL_law_289) (gDec okL_law tL_law_290) eL_law_291 rfl rfl rfl (by omega) ?_
  refine sc_I (k := 2) hz (gDec okL_law tL_law_292) (gDec okL_law tL_law_293) (gDec okL_law tL_law_295) (gDec okL_law tL_law_296) eL_law_297 rfl rfl rfl (by omega) ?_
  refine sc_I (k := 3) hz (gDec okL_law tL_law_298) (gDec okL_law tL_law_299) (gDec okL_law tL_law_301) (gDec okL_law tL_law_302) eL_law_303 rfl rfl rfl (by omega) ?_
  refine sc_Z (gDec okL_law tL_law_304) (gDec okL_law tL_law_307) (gDec okL_law tL_law_308) (gDec okL_law tL_law_311) ?_
  refine gG_callV (f := mX8_third) (ci := 9) (okMb_V (gMs_at (r := 65) (by decide)) (by decide)) (gDec okL_law tL_law_312) (gMem (i := 463) rfl rfl) rfl (by decide) rfl (c1 := 0) (n1 := 0) (c := c) (n := n) (As := [.int (xs (i + 1)), .int (xs (i + 2)), .int (nI (zb (xs (i + 3))))]) (rest := []) (d1 := 0 + 5) (d := 2048) hd.2.1.1 rfl (by simp [Value.category]) (by omega) ?_
  refine x_third (d := 0) hd J.1 _ _ _ (zb_le _) (fun p q h1 e1 e2 e3 e4 D f => ?_) (fun e => ?_)
  · refine gG_t ?_
    obtain ⟨hr1, ko1, no1, -⟩ := hr.f9 tg ko no (f.n9 (by simp [scT, ruS]))
    refine gG_aload_nR (k := 2) (gDec okL_law tL_law_315) rfl ?_
    refine sc_I (k := 1) hz (gDec okL_law tL_law_316) (gDec okL_law tL_law_317) (gDec okL_law tL_law_319) (gDec okL_law tL_law_320) eL_law_321 rfl rfl rfl (by omega) ?_
    refine sc_I (k := 2) hz (gDec okL_law tL_law_322) (gDec okL_law tL_law_323) (gDec okL_law tL_law_325) (gDec okL_law tL_law_326) eL_law_327 rfl rfl rfl (by omega) ?_
    refine sc_I (k := 3) hz (gDec okL_law tL_law_328) (gDec okL_law tL_law_329) (gDec okL_law tL_law_331) (gDec okL_law tL_law_332) eL_law_333 rfl rfl rfl (by omega) ?_
    refine sc_Z (gDec okL_law tL_law_334) (gDec okL_law tL_law_337) (gDec okL_law tL_law_338) (gDec okL_law tL_law_341) ?_
    refine gG_wd (c' := 0 + c) (n' := 0 + n) (by omega) (by omega) ?_
    refine gG_callV (f := mX9_third) (ci := 10) (okMb_V (gMs_at (r := 138) (by decide)) (by decide)) (gDec okL_law tL_law_342) (gMem (i := 1361) rfl rfl) rfl (by decide) rfl (c1 := 0) (n1 := 0) (c := c) (n := n) (As := [.int (xs (i + 1)), .int (xs (i + 2)), .int (nI (zb (xs (i + 3))))]) (rest := [.int (nI 1)]) (d1 := 0 + 2) (d := 2048) hr1.1.1 rfl (by simp [Value.category]) (by omega) ?_
    refine r_third (d := 0) hr1 J.1.1.2.2.2.1 (fun p hp => (J.1.2.2.1 p hp).2.2) _ _ _ (zb_le _) (fun p2 q2 h2 g1 g2 g3 g4 R rp => ?_) (fun h2 g R rp => ?_)
    · have c27 := J.1.1.2.2.2.1
      obtain rfl := nj (by omega) (by omega) e1 g1
      obtain rfl := nj (by omega) (by omega) e3 g3
      have m := (J.1.2.2.1 p e2).2.2
      refine gG_t (lEq (gDec okL_law tL_law_345) rfl (hq h2 (LIV.mk D rfl rp R tg (J_third J e2 ?_) ko1 no1)))
      split
      · exact Nat.lt_of_le_of_lt Nat.and_le_left m
      · exact Nat.or_lt_two_pow (n := 8) m (Nat.pow_lt_pow_right (by omega) e4)
    · rcases g with g | g
      · exact absurd e1 (g p e2)
      · exact absurd e3 (g q e4)
  · refine gG_t ?_
    have hr1 := hr
    refine gG_aload_nR (k := 2) (gDec okL_law tL_law_315) rfl ?_
    refine sc_I (k := 1) hz (gDec okL_law tL_law_316) (gDec okL_law tL_law_317) (gDec okL_law tL_law_319) (gDec okL_law tL_law_320) eL_law_321 rfl rfl rfl (by omega) ?_
    refine sc_I (k := 2) hz (gDec okL_law tL_law_322) (gDec okL_law tL_law_323) (gDec okL_law tL_law_325) (gDec okL_law tL_law_326) eL_law_327 rfl rfl rfl (by omega) ?_
    refine sc_I (k := 3) hz (gDec okL_law tL_law_328) (gDec okL_law tL_law_329) (gDec okL_law tL_law_331) (gDec okL_law tL_law_332) eL_law_333 rfl rfl rfl (by omega) ?_
    refine sc_Z (gDec okL_law tL_law_334) (gDec okL_law tL_law_337) (gDec okL_law tL_law_338) (gDec okL_law tL_law_341) ?_
    refine gG_wd (c' := 0 + c) (n' := 0 + n) (by omega) (by omega) ?_
    refine gG_callV (f := mX9_third) (ci := 10) (okMb_V (gMs_at (r := 138) (by decide)) (by decide)) (gDec okL_law tL_law_342) (gMem (i := 1361) rfl rfl) rfl (by decide) rfl (c1 := 0) (n1 := 0) (c := c) (n := n) (As := [.int (xs (i + 1)), .int (xs (i + 2)), .int (nI (zb (xs (i + 3))))]) (rest := [.int (nI 0)]) (d1 := 0 + 2) (d := 2048) hr1.1.1 rfl (by simp [Value.category]) (by omega) ?_
    refine r_third (d := 0) hr1 J.1.1.2.2.2.1 (fun p hp => (J.1.2.2.1 p hp).2.2) _ _ _ (zb_le _) (fun p2 q2 h2 g1 g2 g3 g4 R rp => ?_) (fun h2 g R rp => ?_)
    · rcases e with e | e
      · exact absurd g1 (e p2 g2)
      · exact absurd g3 (e q2 g4)
    · refine gG_t (lEq (gDec okL_law tL_law_345) rfl (hq h2 (LIV.mk hd rfl rp R tg J ko no)))
set_option maxRecDepth 100000 in
set_option maxHeartbeats 1600000 in
theorem lc_14 (hX : gXt B E mi) (hz : gXz B b L xs) (hi : i + 6 < L) (I : LIV E u x xa o h) (hq : ∀ h', LIV E u x xa o h' → gG B mL_law 2048 c n 1116 (lvL b u x o i) [] h' Q) : gG B mL_law 2048 (0 + c) (0 + n) 772 (lvL b u x o i) [] h Q := by
  obtain ⟨Y, ow, v, rl, s, a, hd, hu, hr, tg, J, ko, no⟩ := I
  subst hu
  refine gG_aload_nR (k := 1) (gDec okL_law tL_law_772) rfl ?_
  refine sc_I (k := 1) hz (gDec okL_law tL_law_773) (gDec okL_law tL_law_774) (gDec okL_law tL_law_776) (gDec okL_law tL_law_777) eL_law_778 rfl rfl rfl (by omega) ?_
  refine sc_I (k := 2) hz (gDec okL_law tL_law_779) (gDec okL_law tL_law_780) (gDec okL_law tL_law_782) (gDec okL_law tL_law_783) eL_law_784 rfl rfl rfl (by omega) ?_
  refine sc_Z (gDec okL_law tL_law_785) (gDec okL_law tL_law_788) (gDec okL_law tL_law_789) (gDec okL_law tL_law_792) ?_
  refine gG_callV (f := mX8_stop) (ci := 9) (okMb_V (gMs_at (r := 74) (by decide)) (by decide)) (gDec okL_law tL_law_793) (gMem (i := 829) rfl rfl) rfl (by decide) rfl (c1 := 0) (n1 := 0) (c := c) (n := n) (As := [.int (xs (i + 1)), .int (nI (zb (xs (i + 2))))]) (rest := []) (d1 := 0 + 5) (d := 2048) hd.2.1.1 rfl (by simp [Value.category]) (by omega) ?_
  refine x_stop (d := 0) hd J.1 J.2.1.1 _ _ (zb_le _) (fun p h1 e1 e2 e3 e4 D f => ?_) (fun p w h1 e1 e2 e3 e4 D f => ?_) (fun e => ?_)
  · refine gG_t ?_
    obtain ⟨hr1, ko1, no1, -⟩ := hr.f9 tg ko no (f.n9 (by simp [scT, ruS]))
    refine gG_aload_nR (k := 2) (gDec okL_law tL_law_796) rfl ?_
    refine sc_I (k := 1) hz (gDec okL_law tL_law_797) (gDec okL_law tL_law_798) (gDec okL_law tL_law_800) (gDec okL_law tL_law_801) eL_law_802 rfl rfl rfl (by omega) ?_
    refine sc_I (k := 2) hz (gDec okL_law tL_law_803) (gDec okL_law tL_law_804) (gDec okL_law tL_law_806) (gDec okL_law tL_law_807) eL_law_808 rfl rfl rfl (by omega) ?_
    refine sc_Z (gDec okL_law tL_law_809) (gDec okL_law tL_law_812) (gDec okL_law tL_law_813) (gDec okL_law tL_law_816) ?_
    refine gG_wd (c' := 0 + c) (n' := 0 + n) (by omega) (by omega) ?_
    refine gG_callV (f := mX9_stop) (ci := 10) (okMb_V (gMs_at (r := 161) (by decide)) (by decide)) (gDec okL_law tL_law_817) (gMem (i := 1463) rfl rfl) rfl (by decide) rfl (c1 := 0) (n1 := 0) (c := c) (n := n) (As := [.int (xs (i + 1)), .int (nI (zb (xs (i + 2))))]) (rest := [.int (nI 1)]) (d1 := 0 + 2) (d := 2048) hr1.1.1 rfl (by simp [Value.category]) (by omega) ?_
    refine r_stop (d := 0) hr1 J.1 J.2.1 _ _ (zb_le _) (fun p2 h2 g1 g2 g3 g4 R rp => ?_) (fun p2 u2 h2 g1 g2 g3 g4 R rp => ?_) (fun h2 g R rp => ?_)
    · have c46 := J.2.1.1
      obtain rfl := nj (by omega) (by omega) e1 g1
      refine gG_t (lEq (gDec okL_law tL_law_820) rfl (hq h2 (LIV.mk D rfl rp R tg (J_stop J (Nat.le_refl _)) ko1 no1)))
    · omega
    · have := (g p e1 e2).mp e3
      omega
  · refine gG_t ?_
    obtain ⟨hr1, ko1, no1, -⟩ := hr.f9 tg ko no (f.n9 (by simp [scT, ruS]))
    refine gG_aload_nR (k := 2) (gDec okL_law tL_law_796) rfl ?_
    refine sc_I (k := 1) hz (gDec okL_law tL_law_797) (gDec okL_law tL_law_798) (gDec okL_law tL_law_800) (gDec okL_law tL_law_801) eL_law_802 rfl rfl rfl (by omega) ?_
    refine sc_I (k := 2) hz (gDec okL_law tL_law_803) (gDec okL_law tL_law_804) (gDec okL_law tL_law_806) (gDec okL_law tL_law_807) eL_law_808 rfl rfl rfl (by omega) ?_
    refine sc_Z (gDec okL_law tL_law_809) (gDec okL_law tL_law_812) (gDec okL_law tL_law_813) (gDec okL_law tL_law_816) ?_
    refine gG_wd (c' := 0 + c) (n' := 0 + n) (by omega) (by omega) ?_
    refine gG_callV (f := mX9_stop) (ci := 10) (okMb_V (gMs_at (r := 161) (by decide)) (by decide)) (gDec okL_law tL_law_817) (gMem (i := 1463) rfl rfl) rfl (by decide) rfl (c1 := 0) (n1 := 0) (c := c) (n := n) (As := [.int (xs (i + 1)), .int (nI (zb (xs (i + 2))))]) (rest := [.int (nI 1)]) (d1 := 0 + 2) (d := 2048) hr1.1.1 rfl (by simp [Value.category]) (by omega) ?_
    refine r_stop (d := 0) hr1 J.1 J.2.1 _ _ (zb_le _) (fun p2 h2 g1 g2 g3 g4 R rp => ?_) (fun p2 u2 h2 g1 g2 g3 g4 R rp => ?_) (fun h2 g R rp => ?_)
    · omega
    · have c46 := J.2.1.1
      obtain rfl := nj (by omega) (by omega) e1 g1
      obtain rfl : w = u2 := by omega
      refine gG_t (lEq (gDec okL_law tL_law_820) rfl (hq h2 (LIV.mk D rfl rp R tg (J_stop (J_st J e2) (Nat.zero_le _)) ko1 no1)))
    · have := (g p e1 e2).mpr e4
      omega
  · refine gG_t ?_
    have hr1 := hr
    refine gG_aload_nR (k := 2) (gDec okL_law tL_law_796) rfl ?_
    refine sc_I (k := 1) hz (gDec okL_law tL_law_797) (gDec okL_law tL_law_798) (gDec okL_law tL_law_800) (gDec okL_law tL_law_801) eL_law_802 rfl rfl rfl (by omega) ?_
    refine sc_I (k := 2) hz (gDec okL_law tL_law_803) (gDec okL_law tL_law_804) (gDec okL_law tL_law_806) (gDec okL_law tL_law_807) eL_law_808 rfl rfl rfl (by omega) ?_
    refine sc_Z (gDec okL_law tL_law_809) (gDec okL_law tL_law_812) (gDec okL_law tL_law_813) (gDec okL_law tL_law_816) ?_
    refine gG_wd (c' := 0 + c) (n' := 0 + n) (by omega) (by omega) ?_
    refine gG_callV (f := mX9_stop) (ci := 10) (okMb_V (gMs_at (r := 161) (by decide)) (by decide)) (gDec okL_law tL_law_817) (gMem (i := 1463) rfl rfl) rfl (by decide) rfl (c1 := 0) (n1 := 0) (c := c) (n := n) (As := [.int (xs (i + 1)), .int (nI (zb (xs (i + 2))))]) (rest := [.int (nI 0)]) (d1 := 0 + 2) (d := 2048) hr1.1.1 rfl (by simp [Value.category]) (by omega) ?_
    refine r_stop (d := 0) hr1 J.1 J.2.1 _ _ (zb_le _) (fun p2 h2 g1 g2 g3 g4 R rp => ?_) (fun p2 u2 h2 g1 g2 g3 g4 R rp => ?_) (fun h2 g R rp => ?_)
    · have := (e p2 g1 g2).mp g3
      omega
    · have := (e p2 g1 g2).mpr g4
      omega
    · refine gG_t (lEq (gDec okL_law tL_law_820) rfl (hq h2 (LIV.mk hd rfl rp R tg J ko no)))
set_option maxRecDepth 100000 in
set_option maxHeartbeats 1600000 in
theorem lc_10 (hX : gXt B E mi) (hz : gXz B b L xs) (hi : i + 6 < L) (I : LIV E u x xa o h) (hq : ∀ h', LIV E u x xa o h' → gG B mL_law 2048 c n 1116 (lvL b u x o i) [] h' Q) : gG B mL_law 2048 (0 + c) (0 + n) 526 (lvL b u x o i) [] h Q := by
  obtain ⟨Y, ow, v, rl, s, a, hd, hu, hr, tg, J, ko, no⟩ := I
  subst hu
  refine gG_aload_nR (k := 1) (gDec okL_law tL_law_526) rfl ?_
  refine sc_I (k := 1) hz (gDec okL_law tL_law_527) (gDec okL_law tL_law_528) (gDec okL_law tL_law_530) (gDec okL_law tL_law_531) eL_law_532 rfl rfl rfl (by omega) ?_
  refine gG_i2l (gDec okL_law tL_law_533) (gG_bipush (v := nI 32) (gDec okL_law tL_law_534) rfl (gG_lshl (gDec okL_law tL_law_536) ?_))
  refine sc_I (k := 2) hz (gDec okL_law tL_law_537) (gDec okL_law tL_law_538) (gDec okL_law tL_law_540) (gDec okL_law tL_law_541) eL_law_542 rfl rfl rfl (by omega) ?_
  refine gG_i2l (gDec okL_law tL_law_543) (gG_ldc2 (v := lN 4294967295) (gDec okL_law tL_law_544) (gMem (i := 1515) rfl rfl) (gG_land (gDec okL_law tL_law_547) (gG_lor (gDec okL_law tL_law_548) ?_)))
  refine sc_I (k := 3) hz (gDec okL_law tL_law_549) (gDec okL_law tL_law_550) (gDec okL_law tL_law_552) (gDec okL_law tL_law_553) eL_law_554 rfl rfl rfl (by omega) ?_
  refine gG_i2l (gDec okL_law tL_law_555) (gG_bipush (v := nI 32) (gDec okL_law tL_law_556) rfl (gG_lshl (gDec okL_law tL_law_558) ?_))
  refine sc_I (k := 4) hz (gDec okL_law tL_law_559) (gDec okL_law tL_law_560) (gDec okL_law tL_law_562) (gDec okL_law tL_law_563) eL_law_564 rfl rfl rfl (by omega) ?_
  refine gG_i2l (gDec okL_law tL_law_565) (gG_ldc2 (v := lN 4294967295) (gDec okL_law tL_law_566) (gMem (i := 1515) rfl rfl) (gG_land (gDec okL_law tL_law_569) (gG_lor (gDec okL_law tL_law_570) ?_)))
  refine sc_I (k := 5) hz (gDec okL_law tL_law_571) (gDec okL_law tL_law_572) (gDec okL_law tL_law_574) (gDec okL_law tL_law_575) eL_law_576 rfl rfl rfl (by omega) ?_
  refine gG_i2l (gDec okL_law tL_law_577) (gG_bipush (v := nI 32) (gDec okL_law tL_law_578) rfl (gG_lshl (gDec okL_law tL_law_580) ?_))
  refine sc_B (k := 6) hz (gDec okL_law tL_law_581) (gDec okL_law tL_law_582) (gDec okL_law tL_law_584) (gDec okL_law tL_law_586) eL_law_587 rfl rfl rfl (by omega) ?_
  refine gG_i2l (gDec okL_law tL_law_588) (gG_ldc2 (v := lN 4294967295) (gDec okL_law tL_law_589) (gMem (i := 1515) rfl rfl) (gG_land (gDec okL_law tL_law_592) (gG_lor (gDec okL_law tL_law_593) ?_)))
  refine gG_callV (f := mX8_feed) (ci := 9) (okMb_V (gMs_at (r := 70) (by decide)) (by decide)) (gDec okL_law tL_law_594) (gMem (i := 499) rfl rfl) rfl (by decide) rfl (c1 := 0) (n1 := 0) (c := c) (n := n) (As := [.long (lwd (xs (i + 1)) (xs (i + 2))), .long (lwd (xs (i + 3)) (xs (i + 4))), .long (lwd (xs (i + 5)) (xs (i + 6)))]) (rest := []) (d1 := 0 + 3) (d := 2048) hd.2.1.1 rfl (by simp [Value.category]) (by omega) ?_
  refine x_feed (d := 0) hd J.1 _ _ _ (fun h1 D f => ?_)
  · refine gG_t ?_
    obtain ⟨hr1, ko1, no1, -⟩ := hr.f9 tg ko no (f.n9 (by simp [scT, ruS]))
    refine gG_aload_nR (k := 2) (gDec okL_law tL_law_597) rfl ?_
    refine sc_I (k := 1) hz (gDec okL_law tL_law_598) (gDec okL_law tL_law_599) (gDec okL_law tL_law_601) (gDec okL_law tL_law_602) eL_law_603 rfl rfl rfl (by omega) ?_
    refine gG_i2l (gDec okL_law tL_law_604) (gG_bipush (v := nI 32) (gDec okL_law tL_law_605) rfl (gG_lshl (gDec okL_law tL_law_607) ?_))
    refine sc_I (k := 2) hz (gDec okL_law tL_law_608) (gDec okL_law tL_law_609) (gDec okL_law tL_law_611) (gDec okL_law tL_law_612) eL_law_613 rfl rfl rfl (by omega) ?_
    refine gG_i2l (gDec okL_law tL_law_614) (gG_ldc2 (v := lN 4294967295) (gDec okL_law tL_law_615) (gMem (i := 1515) rfl rfl) (gG_land (gDec okL_law tL_law_618) (gG_lor (gDec okL_law tL_law_619) ?_)))
    refine sc_I (k := 3) hz (gDec okL_law tL_law_620) (gDec okL_law tL_law_621) (gDec okL_law tL_law_623) (gDec okL_law tL_law_624) eL_law_625 rfl rfl rfl (by omega) ?_
    refine gG_i2l (gDec okL_law tL_law_626) (gG_bipush (v := nI 32) (gDec okL_law tL_law_627) rfl (gG_lshl (gDec okL_law tL_law_629) ?_))
    refine sc_I (k := 4) hz (gDec okL_law tL_law_630) (gDec okL_law tL_law_631) (gDec okL_law tL_law_633) (gDec okL_law tL_law_634) eL_law_635 rfl rfl rfl (by omega) ?_
    refine gG_i2l (gDec okL_law tL_law_636) (gG_ldc2 (v := lN 4294967295) (gDec okL_law tL_law_637) (gMem (i := 1515) rfl rfl) (gG_land (gDec okL_law tL_law_640) (gG_lor (gDec okL_law tL_law_641) ?_)))
    refine sc_I (k := 5) hz (gDec okL_law tL_law_642) (gDec okL_law tL_law_643) (gDec okL_law tL_law_645) (gDec okL_law tL_law_646) eL_law_647 rfl rfl rfl (by omega) ?_
    refine gG_i2l (gDec okL_law tL_law_648) (gG_bipush (v := nI 32) (gDec okL_law tL_law_649) rfl (gG_lshl (gDec okL_law tL_law_651) ?_))
    refine sc_B (k := 6) hz (gDec okL_law tL_law_652) (gDec okL_law tL_law_653) (gDec okL_law tL_law_655) (gDec okL_law tL_law_657) eL_law_658 rfl rfl rfl (by omega) ?_
    refine gG_i2l (gDec okL_law tL_law_659) (gG_ldc2 (v := lN 4294967295) (gDec okL_law tL_law_660) (gMem (i := 1515) rfl rfl) (gG_land (gDec okL_law tL_law_663) (gG_lor (gDec okL_law tL_law_664) ?_)))
    refine gG_wd (c' := 0 + c) (n' := 0 + n) (by omega) (by omega) ?_
    refine gG_callV (f := mX9_feed) (ci := 10) (okMb_V (gMs_at (r := 104) (by decide)) (by decide)) (gDec okL_law tL_law_665) (gMem (i := 1238) rfl rfl) rfl (by decide) rfl (c1 := 0) (n1 := 0) (c := c) (n := n) (As := [.long (lwd (xs (i + 1)) (xs (i + 2))), .long (lwd (xs (i + 3)) (xs (i + 4))), .long (lwd (xs (i + 5)) (xs (i + 6)))]) (rest := [.int (nI (fdV (lwd (xs (i + 1)) (xs (i + 2))) (lwd (xs (i + 3)) (xs (i + 4))) (lwd (xs (i + 5)) (xs (i + 6))) (s 2, a 1)).1)]) (d1 := 0 + 2) (d := 2048) hr1.1.1 rfl (by simp [Value.category]) (by omega) ?_
    refine r_feed (d := 0) hr1 J.2.2.2.2.2.2.2.2.2.2 _ _ _ (fun h2 R rp => ?_)
    · refine gG_t (lEq (gDec okL_law tL_law_668) rfl (hq h2 (LIV.mk D rfl rp R tg (J_feed J) ko1 no1)))
set_option maxRecDepth 100000 in
set_option maxHeartbeats 1600000 in
theorem lc_11 (hXs : gXs B sK sV) (I : LIV E u x xa o h) (hq : ∀ h', LIV E u x xa o h' → gG B mL_law 2048 c n 1116 (lvL b u x o i) [] h' Q) : gG B mL_law 2048 (1 + c) (5 + n) 673 (lvL b u x o i) [] h Q := by
  obtain ⟨Y, ow, v, rl, s, a, hd, hu, hr, tg, J, ko, no⟩ := I
  subst hu
  have wg : ∀ g, g < s 31 → a 32 g < s 27 ∧ a 33 g < s 36 := fun g hg => ⟨(J.1.2.2.2.1 g hg).1, (J.1.2.2.2.1 g hg).2.1⟩
  have kc : ∀ {w : Nat} {r : List (Nat × List (Nat × Nat))} {h1 : gHp} {s' : Nat → Nat} {a' : Nat → Nat → Nat}, DS E Y ow w r h1 (va_up s 2 0) a → RK s a s' a' → DS E Y ow w r h1 s' a' := fun D rk => DS.cg D wg (fun k hk => by
    rw [va_up_eq]
    by_cases q : k = 2
    · rw [if_pos q, q]; exact rk.2.1
    · rw [if_neg q]; exact rk.1 k (by omega) (by omega) (by omega) (by omega) (by omega) (by omega) (by omega) (by omega)) (fun k j hk => rk.2.2 k j (by omega) (by omega) (by omega))
  refine gG_aload_nR (k := 1) (gDec okL_law tL_law_673) rfl ?_
  refine gG_callV (f := mX8_rules) (ci := 9) (okMb_V (gMs_at (r := 71) (by decide)) (by decide)) (gDec okL_law tL_law_674) (gMem (i := 512) rfl rfl) rfl (by decide) rfl (c1 := 1) (n1 := 5) (c := c) (n := n) (As := []) (rest := []) (d1 := 30) (d := 2048) hd.2.1.1 rfl (by simp [Value.category]) (by omega) ?_
  have X := x_rules (Q := fun v h' => gG B mL_law 2048 c n (674 + 3) (lvL b (Y 0 0 0) x o i) (v.toList ++ []) h' Q) hXs hd J.1
  cases e : rdRes (a 1) (s 2) with
  | inl F =>
    rw [e] at X
    refine X (fun h1 D f => ?_)
    refine gG_t ?_
    obtain ⟨hr1, ko1, no1, -⟩ := hr.f9 tg ko no (f.n9 (by simp [scT, ruS]))
    refine gG_aload_nR (k := 2) (gDec okL_law tL_law_677) rfl ?_
    refine gG_wd (c' := 0 + c) (n' := 0 + n) (by omega) (by omega) ?_
    refine gG_callV (f := mX9_rules) (ci := 10) (okMb_V (gMs_at (r := 119) (by decide)) (by decide)) (gDec okL_law tL_law_678) (gMem (i := 1246) rfl rfl) rfl (by decide) rfl (c1 := 0) (n1 := 0) (c := c) (n := n) (As := []) (rest := [.int (nI F)]) (d1 := 0 + 5) (d := 2048) hr1.1.1 rfl (by simp [Value.category]) (by omega) ?_
    refine r_rules (d := 0) hr1 J.2.2.2.2.2.2.2.2.2.2 J.2.2.2.2.1 J.2.2.2.2.2.1 J.2.2.2.2.2.2.1 ?_
    rw [e]
    intro h2 s' a' R rp rk h6 hl
    refine gG_t (lEq (gDec okL_law tL_law_681) rfl (hq h2 (LIV.mk (kc D rk) rfl rp R tg (J_rules J rk h6 hl) ko1 no1)))
  | inr r2 =>
    rw [e] at X
    refine X (fun h1 D f => ?_)
    refine gG_t ?_
    obtain ⟨hr1, ko1, no1, -⟩ := hr.f9 tg ko no (f.n9 (by simp [scT, ruS]))
    refine gG_aload_nR (k := 2) (gDec okL_law tL_law_677) rfl ?_
    refine gG_wd (c' := 0 + c) (n' := 0 + n) (by omega) (by omega) ?_
    refine gG_callV (f := mX9_rules) (ci := 10) (okMb_V (gMs_at (r := 119) (by decide)) (by decide)) (gDec okL_law tL_law_678) (gMem (i := 1246) rfl rfl) rfl (by decide) rfl (c1 := 0) (n1 := 0) (c := c) (n := n) (As := []) (rest := [.int (nI 0)]) (d1 := 0 + 5) (d := 2048) hr1.1.1 rfl (by simp [Value.category]) (by omega) ?_
    refine r_rules (d := 0) hr1 J.2.2.2.2.2.2.2.2.2.2 J.2.2.2.2.1 J.2.2.2.2.2.1 J.2.2.2.2.2.2.1 ?_
    rw [e]
    intro h2 s' a' R rp rk h6 hl
    refine gG_t (lEq (gDec okL_law tL_law_681) rfl (hq h2 (LIV.mk (kc D rk) rfl rp R tg (J_rules J rk h6 hl) ko1 no1)))
end LAWG
