/-! THE LAW: the cases whose arguments are ints -/
abbrev lvL (b u x o i : Nat) : List (Nat × Value) := [(0, .ref b), (1, .ref u), (2, .ref x), (3, .ref o), (4, .int (nI i))]
theorem nj {p q : Nat} {z : Int32} (hp : p < 2 ^ 31) (hq : q < 2 ^ 31) (e1 : z = nI p) (e2 : z = nI q) : p = q := by
  have := congrArg Int32.toNatClampNeg (e1.symm.trans e2)
  rw [nI_clamp hp, nI_clamp hq] at this
  exact this
section LAWF
variable {B : gB} {E mi : Nat} {x u o b L i : Nat} {xa : Nat → Nat} {xs : Nat → Int32} {h h1 h2 : gHp} {Q : Option Value → gHp → Prop} {c n : Nat} {Y Y2 : gYm} {ow : Nat → gTag} {v : Nat} {rl : List (Nat × List (Nat × Nat))} {s : Nat → Nat} {a : Nat → Nat → Nat}
theorem gG_t {d pc : Nat} {m : gM} {lv : List (Nat × Value)} {w : Value} {rest : List Value} (k : gG B m d c n pc lv (w :: rest) h Q) : gG B m d c n pc lv ((some w).toList ++ rest) h Q := k
theorem lEq {pc : Nat} {off : Int} {y : Int32} {lv : List (Nat × Value)} {st : List Value} (hdg : decode (gCd mL_law) pc = .ok (.if_icmp .eq off, 3)) (ht : (pc : Int) + off = ((1116 : Nat) : Int)) (kk : gG B mL_law 2048 c n 1116 lv st h Q) : gG B mL_law 2048 c n pc lv (.int y :: .int y :: st) h Q := gG_icmp_eq hdg ht (fun _ => kk) (fun q => absurd rfl q)
theorem LIV.mk (D : DS E Y2 ow v rl h1 s a) (hu : Y2 0 0 0 = u) (rp : RP h1 h2) (R : RS x xa h2 s a) (tg : LTG ow x xa o) (J : JI s a rl) (ko : hK h1 o = 13) (no : hN h1 o = 1) : LIV E u x xa o h2 := ⟨Y2, ow, v, rl, s, a, D.rpK rp, hu, R, tg, J, by rw [rp.1]; exact ko, by rw [rp.2.2.1]; exact no⟩
set_option maxRecDepth 100000 in
set_option maxHeartbeats 1600000 in
theorem lc_0 (hX : gXt B E mi) (hz : gXz B b L xs) (hi : i + 6 < L) (I : LIV E u x xa o h) (hq : ∀ h', LIV E u x xa o h' → gG B mL_law 2048 c n 1116 (lvL b u x o i) [] h' Q) : gG B mL_law 2048 (0 + c) (0 + n) 148 (lvL b u x o i) [] h Q := by
  obtain ⟨Y, ow, v, rl, s, a, hd, hu, hr, tg, J, ko, no⟩ := I
  subst hu
  refine gG_aload_nR (k := 1) (gDec okL_law tL_law_148) rfl ?_
  refine sc_I (k := 1) hz (gDec okL_law tL_law_149) (gDec okL_law tL_law_150) (gDec okL_law tL_law_152) (gDec okL_law tL_law_153) eL_law_154 rfl rfl rfl (by omega) ?_
  refine gG_callV (f := mX8_days) (ci := 9) (okMb_V (gMs_at (r := 58) (by decide)) (by decide)) (gDec okL_law tL_law_155) (gMem (i := 238) rfl rfl) rfl (by decide) rfl (c1 := 0) (n1 := 0) (c := c) (n := n) (As := [.int (xs (i + 1))]) (rest := []) (d1 := 0 + 1) (d := 2048) hd.2.1.1 rfl (by simp [Value.category]) (by omega) ?_
  refine x_days (d := 0) hd J.1 _ (fun j h1 e1 e2 e3 D f => ?_) (fun e => ?_)
  · refine gG_t ?_
    obtain ⟨hr1, ko1, no1, -⟩ := hr.f9 tg ko no (f.n9 (by simp [scT, ruS]))
    refine gG_aload_nR (k := 2) (gDec okL_law tL_law_158) rfl ?_
    refine sc_I (k := 1) hz (gDec okL_law tL_law_159) (gDec okL_law tL_law_160) (gDec okL_law tL_law_162) (gDec okL_law tL_law_163) eL_law_164 rfl rfl rfl (by omega) ?_
    refine gG_wd (c' := 0 + c) (n' := 0 + n) (by omega) (by omega) ?_
    refine gG_callV (f := mX9_days) (ci := 10) (okMb_V (gMs_at (r := 124) (by decide)) (by decide)) (gDec okL_law tL_law_165) (gMem (i := 1312) rfl rfl) rfl (by decide) rfl (c1 := 0) (n1 := 0) (c := c) (n := n) (As := [.int (xs (i + 1))]) (rest := [.int (nI (s 24 + j))]) (d1 := 0 + 1) (d := 2048) hr1.1.1 rfl (by simp [Value.category]) (by omega) ?_
    refine r_days (d := 0) hr1 J.1.1.1 _ (fun j2 h2 g1 g2 g3 R rp => ?_) (fun h2 g R rp => ?_)
    · obtain rfl := nj (by omega) (by omega) e1 g1
      refine gG_t (lEq (gDec okL_law tL_law_168) rfl (hq h2 (LIV.mk D rfl rp R tg (J_days J e3) ko1 no1)))
    · exact absurd e1 (g j e2 e3)
  · refine gG_t ?_
    have hr1 := hr
    refine gG_aload_nR (k := 2) (gDec okL_law tL_law_158) rfl ?_
    refine sc_I (k := 1) hz (gDec okL_law tL_law_159) (gDec okL_law tL_law_160) (gDec okL_law tL_law_162) (gDec okL_law tL_law_163) eL_law_164 rfl rfl rfl (by omega) ?_
    refine gG_wd (c' := 0 + c) (n' := 0 + n) (by omega) (by omega) ?_
    refine gG_callV (f := mX9_days) (ci := 10) (okMb_V (gMs_at (r := 124) (by decide)) (by decide)) (gDec okL_law tL_law_165) (gMem (i := 1312) rfl rfl) rfl (by decide) rfl (c1 := 0) (n1 := 0) (c := c) (n := n) (As := [.int (xs (i + 1))]) (rest := [.int (-nI 1)]) (d1 := 0 + 1) (d := 2048) hr1.1.1 rfl (by simp [Value.category]) (by omega) ?_
    refine r_days (d := 0) hr1 J.1.1.1 _ (fun j2 h2 g1 g2 g3 R rp => ?_) (fun h2 g R rp => ?_)
    · exact absurd g1 (e j2 g2 g3)
    · refine gG_t (lEq (gDec okL_law tL_law_168) rfl (hq h2 (LIV.mk hd rfl rp R tg J ko no)))
set_option maxRecDepth 100000 in
set_option maxHeartbeats 1600000 in
theorem lc_1 (hX : gXt B E mi) (hz : gXz B b L xs) (hi : i + 6 < L) (I : LIV E u x xa o h) (hq : ∀ h', LIV E u x xa o h' → gG B mL_law 2048 c n 1116 (lvL b u x o i) [] h' Q) : gG B mL_law 2048 (0 + c) (0 + n) 173 (lvL b u x o i) [] h Q := by
  obtain ⟨Y, ow, v, rl, s, a, hd, hu, hr, tg, J, ko, no⟩ := I
  subst hu
  refine gG_aload_nR (k := 1) (gDec okL_law tL_law_173) rfl ?_
  refine sc_I (k := 1) hz (gDec okL_law tL_law_174) (gDec okL_law tL_law_175) (gDec okL_law tL_law_177) (gDec okL_law tL_law_178) eL_law_179 rfl rfl rfl (by omega) ?_
  refine gG_callV (f := mX8_folder) (ci := 9) (okMb_V (gMs_at (r := 59) (by decide)) (by decide)) (gDec okL_law tL_law_180) (gMem (i := 242) rfl rfl) rfl (by decide) rfl (c1 := 0) (n1 := 0) (c := c) (n := n) (As := [.int (xs (i + 1))]) (rest := []) (d1 := 0 + 2) (d := 2048) hd.2.1.1 rfl (by simp [Value.category]) (by omega) ?_
  refine x_folder (d := 0) hd J.1 _ (fun j h1 e1 e2 e3 D f => ?_) (fun e => ?_)
  · refine gG_t ?_
    obtain ⟨hr1, ko1, no1, -⟩ := hr.f9 tg ko no (f.n9 (by simp [scT, ruS]))
    refine gG_aload_nR (k := 2) (gDec okL_law tL_law_183) rfl ?_
    refine sc_I (k := 1) hz (gDec okL_law tL_law_184) (gDec okL_law tL_law_185) (gDec okL_law tL_law_187) (gDec okL_law tL_law_188) eL_law_189 rfl rfl rfl (by omega) ?_
    refine gG_wd (c' := 0 + c) (n' := 0 + n) (by omega) (by omega) ?_
    refine gG_callV (f := mX9_folder) (ci := 10) (okMb_V (gMs_at (r := 126) (by decide)) (by decide)) (gDec okL_law tL_law_190) (gMem (i := 1316) rfl rfl) rfl (by decide) rfl (c1 := 0) (n1 := 0) (c := c) (n := n) (As := [.int (xs (i + 1))]) (rest := [.int (nI (s 25))]) (d1 := 0 + 2) (d := 2048) hr1.1.1 rfl (by simp [Value.category]) (by omega) ?_
    refine r_folder (d := 0) hr1 J.1.1.2.2.1 _ (fun j2 h2 g1 g2 g3 R rp => ?_) (fun h2 g R rp => ?_)
    · have b25 := J.1.1.2.2.1
      obtain rfl := nj (by omega) (by omega) e1 g1
      refine gG_t (lEq (gDec okL_law tL_law_193) rfl (hq h2 (LIV.mk D rfl rp R tg (J_folder J e2 e3) ko1 no1)))
    · rcases g with g | g
      · exact absurd e1 (g j e2)
      · omega
  · refine gG_t ?_
    have hr1 := hr
    refine gG_aload_nR (k := 2) (gDec okL_law tL_law_183) rfl ?_
    refine sc_I (k := 1) hz (gDec okL_law tL_law_184) (gDec okL_law tL_law_185) (gDec okL_law tL_law_187) (gDec okL_law tL_law_188) eL_law_189 rfl rfl rfl (by omega) ?_
    refine gG_wd (c' := 0 + c) (n' := 0 + n) (by omega) (by omega) ?_
    refine gG_callV (f := mX9_folder) (ci := 10) (okMb_V (gMs_at (r := 126) (by decide)) (by decide)) (gDec okL_law tL_law_190) (gMem (i := 1316) rfl rfl) rfl (by decide) rfl (c1 := 0) (n1 := 0) (c := c) (n := n) (As := [.int (xs (i + 1))]) (rest := [.int (-nI 1)]) (d1 := 0 + 2) (d := 2048) hr1.1.1 rfl (by simp [Value.category]) (by omega) ?_
    refine r_folder (d := 0) hr1 J.1.1.2.2.1 _ (fun j2 h2 g1 g2 g3 R rp => ?_) (fun h2 g R rp => ?_)
    · rcases e with e | e
      · exact absurd g1 (e j2 g2)
      · omega
    · refine gG_t (lEq (gDec okL_law tL_law_193) rfl (hq h2 (LIV.mk hd rfl rp R tg J ko no)))
end LAWF
