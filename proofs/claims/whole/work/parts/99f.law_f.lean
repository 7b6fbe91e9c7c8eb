/-! THE LAW: the cases whose arguments are ints -/
abbrev lvL (b u x o i : Nat) : List (Nat × Value) := [(0, .ref b), (1, .ref u), (2, .ref x), (3, .ref o), (4, .int (nI i))]
theorem nj {p q : Nat} {z : Int32} (hp : p < 2 ^ 31) (hq : q < 2 ^ 31) (e1 : z = nI p) (e2 : z = nI q) : p = q := by
  have := congrArg Int32.toNatClampNeg (e1.symm.trans e2)
  rw [nI_clamp hp, nI_clamp hq] at this
  exact this
theorem cnt_mn {f : Nat → Bool} {p : Nat} : ∀ q, p ≤ q → cntN f p ≤ cntN f q := by
  intro q
  induction q with
  | zero => intro h; rw [Nat.le_zero.mp h]; exact Nat.le_refl _
  | succ q ih =>
    intro h
    by_cases e : p = q + 1
    · rw [e]; exact Nat.le_refl _
    · have := ih (by omega)
      show cntN f p ≤ cntN f q + _
      omega
theorem cnt_lt {f : Nat → Bool} {p q : Nat} (h : p < q) (hf : f p = true) : cntN f p < cntN f q := by
  have h1 := cnt_mn (f := f) q (show p + 1 ≤ q from h)
  have h2 : cntN f (p + 1) = cntN f p + 1 := by show cntN f p + (if f p then 1 else 0) = _; rw [if_pos hf]
  omega
theorem cnt_eq {f : Nat → Bool} {p q : Nat} (hp : f p = true) (hq : f q = true) (e : cntN f p = cntN f q) : p = q := by
  rcases Nat.lt_trichotomy p q with w | w | w
  · have := cnt_lt w hp; omega
  · exact w
  · have := cnt_lt w hq; omega
theorem tU {f : Nat → Bool} {t t2 N : Nat} (h1 : t ≤ N) (h2 : t2 ≤ N) (a1 : ∀ i, i < t → f i = false) (b1 : t < N → f t = true) (a2 : ∀ i, i < t2 → f i = false) (b2 : t2 < N → f t2 = true) : t = t2 := by
  rcases Nat.lt_trichotomy t t2 with w | w | w
  · have h3 := a2 t w
    rw [b1 (by omega)] at h3
    exact absurd h3 (by decide)
  · exact w
  · have h3 := a1 t2 w
    rw [b2 (by omega)] at h3
    exact absurd h3 (by decide)
section LAWF
variable {B : gB} {E mi : Nat} {x u o b L i : Nat} {xa : Nat → Nat} {xs : Nat → Int32} {h h1 h2 : gHp} {Q : Option Value → gHp → Prop} {c n : Nat} {Y Y2 : gYm} {ow : Nat → gTag} {v : Nat} {rl : List (Nat × List (Nat × Nat))} {s : Nat → Nat} {a : Nat → Nat → Nat}
theorem gG_t {d pc : Nat} {m : gM} {lv : List (Nat × Value)} {w : Value} {rest : List Value} (k : gG B m d c n pc lv (w :: rest) h Q) : gG B m d c n pc lv ((some w).toList ++ rest) h Q := k
theorem lEq {pc : Nat} {off : Int} {y : Int32} {lv : List (Nat × Value)} {st : List Value} (hdg : decode (gCd mL_law) pc = .ok (.if_icmp .eq off, 3)) (ht : (pc : Int) + off = ((1116 : Nat) : Int)) (kk : gG B mL_law 2048 c n 1116 lv st h Q) : gG B mL_law 2048 c n pc lv (.int y :: .int y :: st) h Q := gG_icmp_eq hdg ht (fun _ => kk) (fun q => absurd rfl q)
theorem LIV.mk (D : DS E Y2 ow v rl h1 s a) (hu : Y2 0 0 0 = u) (rp : RP h1 h2) (R : RS x xa h2 s a) (tg : LTG ow x xa o) (J : JI s a rl) (ko : hK h1 o = 13) (no : hN h1 o = 1) : LIV E u x xa o h2 := ⟨Y2, ow, v, rl, s, a, D.rpK rp, hu, R, tg, J, by rw [rp.1]; exact ko, by rw [rp.2.2.1]; exact no⟩
set_option maxRecDepth 100000 in
set_option maxHeartbeats 1600000 in
theorem lc_0 (hX : gXt B E mi) (hz : gXz B b L xs) (hi : i + 6 < L) (I : LIV E u x xa o h) (hq : ∀ h', LIV E u x xa o h' → gG B mL_law 2048 c n 1116 (lvL b u x o i) [] h' Q) : gG B mL_law 2048 (0 + c) (0 + n) 148 (lvL b u x o i) [] h Q := by
  obtain ⟨Y, ow, v, rl, s, a, hd, hu, hr, tg, J, ko, no⟩ := I
  subst hu
  refine gG_aload_nR (k := 1) (gDec okL_law tL_law_148) rfl ?_
  refine sc_I (k := 1) hz (gDec okL_law tL_law_149) (gDec okL_law tL_law_150) (gDec okL_law tL_law_152) (gDec okL_law tL_law_153) eL_law_154 rfl rfl rfl (by omega) ?_
  refine gG_callV (f := mX8_days) (ci := 9) (okMb_V (gMs_at (r := 60) (by decide)) (by decide)) (gDec okL_law tL_law_155) (gMem (i := 231) rfl rfl) rfl (by decide) rfl (c1 := 0) (n1 := 0) (c := c) (n := n) (As := [.int (xs (i + 1))]) (rest := []) (d1 := 0 + 1) (d := 2048) hd.2.1.1 rfl (by simp [Value.category]) (by omega) ?_
  refine x_days (d := 0) hd J.1 _ (fun j h1 e1 e2 e3 D f => ?_) (fun e => ?_)
  · refine gG_t ?_
    obtain ⟨hr1, ko1, no1, -⟩ := hr.f9 tg ko no (f.n9 (by simp [scT, ruS]))
    refine gG_aload_nR (k := 2) (gDec okL_law tL_law_158) rfl ?_
    refine sc_I (k := 1) hz (gDec okL_law tL_law_159) (gDec okL_law tL_law_160) (gDec okL_law tL_law_162) (gDec okL_law tL_law_163) eL_law_164 rfl rfl rfl (by omega) ?_
    refine gG_wd (c' := 0 + c) (n' := 0 + n) (by omega) (by omega) ?_
    refine gG_callV (f := mX9_days) (ci := 10) (okMb_V (gMs_at (r := 126) (by decide)) (by decide)) (gDec okL_law tL_law_165) (gMem (i := 1322) rfl rfl) rfl (by decide) rfl (c1 := 0) (n1 := 0) (c := c) (n := n) (As := [.int (xs (i + 1))]) (rest := [.int (nI (s 24 + j))]) (d1 := 0 + 1) (d := 2048) hr1.1.1 rfl (by simp [Value.category]) (by omega) ?_
    refine r_days (d := 0) hr1 J.1.1.1 _ (fun j2 h2 g1 g2 g3 R rp => ?_) (fun h2 g R rp => ?_)
    · obtain rfl := nj (by omega) (by omega) e1 g1
      refine gG_t (lEq (gDec okL_law tL_law_168) rfl (hq h2 (LIV.mk D rfl rp R tg (J_days J e3) ko1 no1)))
    · exact absurd e1 (g j e2 e3)
  · refine gG_t ?_
    have hr1 := hr
    refine gG_aload_nR (k := 2) (gDec okL_law tL_law_158) rfl ?_
    refine sc_I (k := 1) hz (gDec okL_law tL_law_159) (gDec okL_law tL_law_160) (gDec okL_law tL_law_162) (gDec okL_law tL_law_163) eL_law_164 rfl rfl rfl (by omega) ?_
    refine gG_wd (c' := 0 + c) (n' := 0 + n) (by omega) (by omega) ?_
    refine gG_callV (f := mX9_days) (ci := 10) (okMb_V (gMs_at (r := 126) (by decide)) (by decide)) (gDec okL_law tL_law_165) (gMem (i := 1322) rfl rfl) rfl (by decide) rfl (c1 := 0) (n1 := 0) (c := c) (n := n) (As := [.int (xs (i + 1))]) (rest := [.int (-nI 1)]) (d1 := 0 + 1) (d := 2048) hr1.1.1 rfl (by simp [Value.category]) (by omega) ?_
    refine r_days (d := 0) hr1 J.1.1.1 _ (fun j2 h2 g1 g2 g3 R rp => ?_) (fun h2 g R rp => ?_)
    · exact absurd g1 (e j2 g2 g3)
    · refine gG_t (lEq (gDec okL_law tL_law_168) rfl (hq h2 (LIV.mk hd rfl rp R tg J ko no)))
set_option maxRecDepth 100000 in
set_option maxHeartbeats 1600000 in
theorem lc_1 (hX : gXt B E mi) (hz : gXz B b L xs) (hi : i + 6 < L) (I : LIV E u x xa o h) (hq : ∀ h', LIV E u x xa o h' → gG B mL_law 2048 c n 1116 (lvL b u x o i) [] h' Q) : gG B mL_law 2048 (0 + c) (0 + n) 173 (lvL b u x o i) [] h Q := by
  obtain ⟨Y, ow, v, rl, s, a, hd, hu, hr, tg, J, ko, no⟩ := I
  subst hu
  refine gG_aload_nR (k := 1) (gDec okL_law tL_law_173) rfl ?_
  refine sc_I (k := 1) hz (gDec okL_law tL_law_174) (gDec okL_law tL_law_175) (gDec okL_law tL_law_177) (gDec okL_law tL_law_178) eL_law_179 rfl rfl rfl (by omega) ?_
  refine gG_callV (f := mX8_folder) (ci := 9) (okMb_V (gMs_at (r := 61) (by decide)) (by decide)) (gDec okL_law tL_law_180) (gMem (i := 235) rfl rfl) rfl (by decide) rfl (c1 := 0) (n1 := 0) (c := c) (n := n) (As := [.int (xs (i + 1))]) (rest := []) (d1 := 0 + 2) (d := 2048) hd.2.1.1 rfl (by simp [Value.category]) (by omega) ?_
  refine x_folder (d := 0) hd J.1 _ (fun j h1 e1 e2 e3 D f => ?_) (fun e => ?_)
  · refine gG_t ?_
    obtain ⟨hr1, ko1, no1, -⟩ := hr.f9 tg ko no (f.n9 (by simp [scT, ruS]))
    refine gG_aload_nR (k := 2) (gDec okL_law tL_law_183) rfl ?_
    refine sc_I (k := 1) hz (gDec okL_law tL_law_184) (gDec okL_law tL_law_185) (gDec okL_law tL_law_187) (gDec okL_law tL_law_188) eL_law_189 rfl rfl rfl (by omega) ?_
    refine gG_wd (c' := 0 + c) (n' := 0 + n) (by omega) (by omega) ?_
    refine gG_callV (f := mX9_folder) (ci := 10) (okMb_V (gMs_at (r := 128) (by decide)) (by decide)) (gDec okL_law tL_law_190) (gMem (i := 1326) rfl rfl) rfl (by decide) rfl (c1 := 0) (n1 := 0) (c := c) (n := n) (As := [.int (xs (i + 1))]) (rest := [.int (nI (s 25))]) (d1 := 0 + 2) (d := 2048) hr1.1.1 rfl (by simp [Value.category]) (by omega) ?_
    refine r_folder (d := 0) hr1 J.1.1.2.2.1 _ (fun j2 h2 g1 g2 g3 R rp => ?_) (fun h2 g R rp => ?_)
    · have b25 := J.1.1.2.2.1
      obtain rfl := nj (by omega) (by omega) e1 g1
      refine gG_t (lEq (gDec okL_law tL_law_193) rfl (hq h2 (LIV.mk D rfl rp R tg (J_folder J e2 e3) ko1 no1)))
    · rcases g with g | g
      · exact absurd e1 (g j e2)
      · omega
  · refine gG_t ?_
    have hr1 := hr
    refine gG_aload_nR (k := 2) (gDec okL_law tL_law_183) rfl ?_
    refine sc_I (k := 1) hz (gDec okL_law tL_law_184) (gDec okL_law tL_law_185) (gDec okL_law tL_law_187) (gDec okL_law tL_law_188) eL_law_189 rfl rfl rfl (by omega) ?_
    refine gG_wd (c' := 0 + c) (n' := 0 + n) (by omega) (by omega) ?_
    refine gG_callV (f := mX9_folder) (ci := 10) (okMb_V (gMs_at (r := 128) (by decide)) (by decide)) (gDec okL_law tL_law_190) (gMem (i := 1326) rfl rfl) rfl (by decide) rfl (c1 := 0) (n1 := 0) (c := c) (n := n) (As := [.int (xs (i + 1))]) (rest := [.int (-nI 1)]) (d1 := 0 + 2) (d := 2048) hr1.1.1 rfl (by simp [Value.category]) (by omega) ?_
    refine r_folder (d := 0) hr1 J.1.1.2.2.1 _ (fun j2 h2 g1 g2 g3 R rp => ?_) (fun h2 g R rp => ?_)
    · rcases e with e | e
      · exact absurd g1 (e j2 g2)
      · omega
    · refine gG_t (lEq (gDec okL_law tL_law_193) rfl (hq h2 (LIV.mk hd rfl rp R tg J ko no)))
set_option maxRecDepth 100000 in
set_option maxHeartbeats 1600000 in
theorem lc_2 (hX : gXt B E mi) (hz : gXz B b L xs) (hi : i + 6 < L) (I : LIV E u x xa o h) (hq : ∀ h', LIV E u x xa o h' → gG B mL_law 2048 c n 1116 (lvL b u x o i) [] h' Q) : gG B mL_law 2048 (0 + c) (0 + n) 198 (lvL b u x o i) [] h Q := by
  obtain ⟨Y, ow, v, rl, s, a, hd, hu, hr, tg, J, ko, no⟩ := I
  subst hu
  refine gG_aload_nR (k := 1) (gDec okL_law tL_law_198) rfl ?_
  refine sc_I (k := 1) hz (gDec okL_law tL_law_199) (gDec okL_law tL_law_200) (gDec okL_law tL_law_202) (gDec okL_law tL_law_203) eL_law_204 rfl rfl rfl (by omega) ?_
  refine gG_callV (f := mX8_word) (ci := 9) (okMb_V (gMs_at (r := 62) (by decide)) (by decide)) (gDec okL_law tL_law_205) (gMem (i := 243) rfl rfl) rfl (by decide) rfl (c1 := 0) (n1 := 0) (c := c) (n := n) (As := [.int (xs (i + 1))]) (rest := []) (d1 := 0 + 2) (d := 2048) hd.2.1.1 rfl (by simp [Value.category]) (by omega) ?_
  refine x_word (d := 0) hd J.1 _ (fun j h1 e1 e2 e3 e4 D f => ?_) (fun e => ?_)
  · refine gG_t ?_
    obtain ⟨hr1, ko1, no1, -⟩ := hr.f9 tg ko no (f.n9 (by simp [scT, ruS]))
    refine gG_aload_nR (k := 2) (gDec okL_law tL_law_208) rfl ?_
    refine sc_I (k := 1) hz (gDec okL_law tL_law_209) (gDec okL_law tL_law_210) (gDec okL_law tL_law_212) (gDec okL_law tL_law_213) eL_law_214 rfl rfl rfl (by omega) ?_
    refine gG_wd (c' := 0 + c) (n' := 0 + n) (by omega) (by omega) ?_
    refine gG_callV (f := mX9_word) (ci := 10) (okMb_V (gMs_at (r := 131) (by decide)) (by decide)) (gDec okL_law tL_law_215) (gMem (i := 1334) rfl rfl) rfl (by decide) rfl (c1 := 0) (n1 := 0) (c := c) (n := n) (As := [.int (xs (i + 1))]) (rest := [.int (nI (s 44 + 1))]) (d1 := 0 + 2) (d := 2048) hr1.1.1 rfl (by simp [Value.category]) (by omega) ?_
    refine r_word (d := 0) hr1 J.1.1.2.2.2.2.2.2 _ (fun j2 h2 g1 g2 g3 g4 R rp => ?_) (fun h2 g R rp => ?_)
    · obtain rfl := nj (by omega) (by omega) e1 g1
      refine gG_t (lEq (gDec okL_law tL_law_218) rfl (hq h2 (LIV.mk D rfl rp R tg (J_word J e2 e3 e4) ko1 no1)))
    · rcases g with g | g
      · exact absurd e1 (g j e2 e3)
      · omega
  · refine gG_t ?_
    have hr1 := hr
    refine gG_aload_nR (k := 2) (gDec okL_law tL_law_208) rfl ?_
    refine sc_I (k := 1) hz (gDec okL_law tL_law_209) (gDec okL_law tL_law_210) (gDec okL_law tL_law_212) (gDec okL_law tL_law_213) eL_law_214 rfl rfl rfl (by omega) ?_
    refine gG_wd (c' := 0 + c) (n' := 0 + n) (by omega) (by omega) ?_
    refine gG_callV (f := mX9_word) (ci := 10) (okMb_V (gMs_at (r := 131) (by decide)) (by decide)) (gDec okL_law tL_law_215) (gMem (i := 1334) rfl rfl) rfl (by decide) rfl (c1 := 0) (n1 := 0) (c := c) (n := n) (As := [.int (xs (i + 1))]) (rest := [.int (-nI 1)]) (d1 := 0 + 2) (d := 2048) hr1.1.1 rfl (by simp [Value.category]) (by omega) ?_
    refine r_word (d := 0) hr1 J.1.1.2.2.2.2.2.2 _ (fun j2 h2 g1 g2 g3 g4 R rp => ?_) (fun h2 g R rp => ?_)
    · rcases e with e | e
      · exact absurd g1 (e j2 g2 g3)
      · omega
    · refine gG_t (lEq (gDec okL_law tL_law_218) rfl (hq h2 (LIV.mk hd rfl rp R tg J ko no)))
set_option maxRecDepth 100000 in
set_option maxHeartbeats 1600000 in
theorem lc_3 (hX : gXt B E mi) (hz : gXz B b L xs) (hi : i + 6 < L) (I : LIV E u x xa o h) (hq : ∀ h', LIV E u x xa o h' → gG B mL_law 2048 c n 1116 (lvL b u x o i) [] h' Q) : gG B mL_law 2048 (12 + c) (1700 + n) 223 (lvL b u x o i) [] h Q := by
  obtain ⟨Y, ow, v, rl, s, a, hd, hu, hr, tg, J, ko, no⟩ := I
  subst hu
  refine gG_aload_nR (k := 1) (gDec okL_law tL_law_223) rfl ?_
  refine sc_I (k := 1) hz (gDec okL_law tL_law_224) (gDec okL_law tL_law_225) (gDec okL_law tL_law_227) (gDec okL_law tL_law_228) eL_law_229 rfl rfl rfl (by omega) ?_
  refine sc_I (k := 2) hz (gDec okL_law tL_law_230) (gDec okL_law tL_law_231) (gDec okL_law tL_law_233) (gDec okL_law tL_law_234) eL_law_235 rfl rfl rfl (by omega) ?_
  refine gG_callV (f := mX8_paper) (ci := 9) (okMb_V (gMs_at (r := 63) (by decide)) (by decide)) (gDec okL_law tL_law_236) (gMem (i := 250) rfl rfl) rfl (by decide) rfl (c1 := 12) (n1 := 1700) (c := c) (n := n) (As := [.int (xs (i + 1)), .int (xs (i + 2))]) (rest := []) (d1 := 0 + 10) (d := 2048) hd.2.1.1 rfl (by simp [Value.category]) (by omega) ?_
  refine x_paper (d := 0) hX hd J.1 J.2.2.1 (fun j => hr.2.2.2.2.2.2 35 j (by decide)) _ _ (fun p q t h1 Y6 ow6 e1 e2 e3 e4 e5 e6 e7 e8 e9 e10 D F W y6 => ?_) (fun e => ?_)
  · refine gG_t ?_
    obtain ⟨hr1, ko1, no1, -⟩ := hr.f9 tg ko no F
    have tg1 := tg.nw hr ko W
    refine gG_aload_nR (k := 2) (gDec okL_law tL_law_239) rfl ?_
    refine sc_I (k := 1) hz (gDec okL_law tL_law_240) (gDec okL_law tL_law_241) (gDec okL_law tL_law_243) (gDec okL_law tL_law_244) eL_law_245 rfl rfl rfl (by omega) ?_
    refine sc_I (k := 2) hz (gDec okL_law tL_law_246) (gDec okL_law tL_law_247) (gDec okL_law tL_law_249) (gDec okL_law tL_law_250) eL_law_251 rfl rfl rfl (by omega) ?_
    refine gG_wd (c' := 0 + c) (n' := 0 + n) (by omega) (by omega) ?_
    refine gG_callV (f := mX9_paper) (ci := 10) (okMb_V (gMs_at (r := 134) (by decide)) (by decide)) (gDec okL_law tL_law_252) (gMem (i := 1341) rfl rfl) rfl (by decide) rfl (c1 := 0) (n1 := 0) (c := c) (n := n) (As := [.int (xs (i + 1)), .int (xs (i + 2))]) (rest := [.int (nI (s 27))]) (d1 := 0 + 3) (d := 2048) hr1.1.1 rfl (by simp [Value.category]) (by omega) ?_
    refine r_paper (d := 0) hr1 J.1 _ _ (fun p2 q2 t2 h2 g1 g2 g3 g4 g5 g6 g7 g8 g9 g10 R rp => ?_) (fun h2 g R rp => ?_)
    · have c24 := J.1.1.1
      have c25 := J.1.1.2.2.1
      obtain rfl := nj (by omega) (by omega) e1 g1
      obtain rfl := nj (by omega) (by omega) e3 g3
      obtain rfl := tU (f := fun i => dft s a (a 37 i)) e8 g8 e9 e10 g9 g10
      refine gG_t (lEq (gDec okL_law tL_law_255) rfl (hq h2 (LIV.mk D (by rw [y6]) rp R tg1 (J_paper J e2 e4 e5 e6 e7 e8 e10) ko1 no1)))
    · exact absurd e7 (fun w => g p q e1 e2 e3 e4 e5 e6 w)
  · refine gG_t ?_
    have hr1 := hr
    refine gG_aload_nR (k := 2) (gDec okL_law tL_law_239) rfl ?_
    refine sc_I (k := 1) hz (gDec okL_law tL_law_240) (gDec okL_law tL_law_241) (gDec okL_law tL_law_243) (gDec okL_law tL_law_244) eL_law_245 rfl rfl rfl (by omega) ?_
    refine sc_I (k := 2) hz (gDec okL_law tL_law_246) (gDec okL_law tL_law_247) (gDec okL_law tL_law_249) (gDec okL_law tL_law_250) eL_law_251 rfl rfl rfl (by omega) ?_
    refine gG_wd (c' := 0 + c) (n' := 0 + n) (by omega) (by omega) ?_
    refine gG_callV (f := mX9_paper) (ci := 10) (okMb_V (gMs_at (r := 134) (by decide)) (by decide)) (gDec okL_law tL_law_252) (gMem (i := 1341) rfl rfl) rfl (by decide) rfl (c1 := 0) (n1 := 0) (c := c) (n := n) (As := [.int (xs (i + 1)), .int (xs (i + 2))]) (rest := [.int (-nI 1)]) (d1 := 0 + 3) (d := 2048) hr1.1.1 rfl (by simp [Value.category]) (by omega) ?_
    refine r_paper (d := 0) hr1 J.1 _ _ (fun p2 q2 t2 h2 g1 g2 g3 g4 g5 g6 g7 g8 g9 g10 R rp => ?_) (fun h2 g R rp => ?_)
    · exact absurd g7 (fun w => e p2 q2 g1 g2 g3 g4 g5 g6 w)
    · refine gG_t (lEq (gDec okL_law tL_law_255) rfl (hq h2 (LIV.mk hd rfl rp R tg J ko no)))
set_option maxRecDepth 100000 in
set_option maxHeartbeats 1600000 in
theorem lc_4 (hX : gXt B E mi) (hz : gXz B b L xs) (hi : i + 6 < L) (I : LIV E u x xa o h) (hq : ∀ h', LIV E u x xa o h' → gG B mL_law 2048 c n 1116 (lvL b u x o i) [] h' Q) : gG B mL_law 2048 (9 + c) (1300 + n) 260 (lvL b u x o i) [] h Q := by
  obtain ⟨Y, ow, v, rl, s, a, hd, hu, hr, tg, J, ko, no⟩ := I
  subst hu
  refine gG_aload_nR (k := 1) (gDec okL_law tL_law_260) rfl ?_
  refine sc_I (k := 1) hz (gDec okL_law tL_law_261) (gDec okL_law tL_law_262) (gDec okL_law tL_law_264) (gDec okL_law tL_law_265) eL_law_266 rfl rfl rfl (by omega) ?_
  refine gG_callV (f := mX8_page) (ci := 9) (okMb_V (gMs_at (r := 64) (by decide)) (by decide)) (gDec okL_law tL_law_267) (gMem (i := 455) rfl rfl) rfl (by decide) rfl (c1 := 9) (n1 := 1300) (c := c) (n := n) (As := [.int (xs (i + 1))]) (rest := []) (d1 := 0 + 10) (d := 2048) hd.2.1.1 rfl (by simp [Value.category]) (by omega) ?_
  refine x_page (d := 0) hX hd J.1 J.2.2.1 (fun j => hr.2.2.2.2.2.2 35 j (by decide)) _ (fun p t h1 Y6 ow6 e1 e2 e5 e7 e8 e9 e10 D F W y6 => ?_) (fun e => ?_)
  · refine gG_t ?_
    obtain ⟨hr1, ko1, no1, -⟩ := hr.f9 tg ko no F
    have tg1 := tg.nw hr ko W
    refine gG_aload_nR (k := 2) (gDec okL_law tL_law_270) rfl ?_
    refine sc_I (k := 1) hz (gDec okL_law tL_law_271) (gDec okL_law tL_law_272) (gDec okL_law tL_law_274) (gDec okL_law tL_law_275) eL_law_276 rfl rfl rfl (by omega) ?_
    refine gG_wd (c' := 0 + c) (n' := 0 + n) (by omega) (by omega) ?_
    refine gG_callV (f := mX9_page) (ci := 10) (okMb_V (gMs_at (r := 136) (by decide)) (by decide)) (gDec okL_law tL_law_277) (gMem (i := 1353) rfl rfl) rfl (by decide) rfl (c1 := 0) (n1 := 0) (c := c) (n := n) (As := [.int (xs (i + 1))]) (rest := [.int (nI (s 31))]) (d1 := 0 + 3) (d := 2048) hr1.1.1 rfl (by simp [Value.category]) (by omega) ?_
    refine r_page (d := 0) hr1 J.1 _ (fun p2 t2 h2 g1 g2 g5 g7 g8 g9 g10 R rp => ?_) (fun h2 g R rp => ?_)
    · have c27 := J.1.1.2.2.2.1
      obtain rfl := nj (by omega) (by omega) e1 g1
      obtain rfl := tU (f := fun i => dft s a (a 37 i)) e8 g8 e9 e10 g9 g10
      refine gG_t (lEq (gDec okL_law tL_law_280) rfl (hq h2 (LIV.mk D (by rw [y6]) rp R tg1 (J_page J e2 e5 e7 e8 e10) ko1 no1)))
    · exact absurd e7 (fun w => g p e1 e2 e5 w)
  · refine gG_t ?_
    have hr1 := hr
    refine gG_aload_nR (k := 2) (gDec okL_law tL_law_270) rfl ?_
    refine sc_I (k := 1) hz (gDec okL_law tL_law_271) (gDec okL_law tL_law_272) (gDec okL_law tL_law_274) (gDec okL_law tL_law_275) eL_law_276 rfl rfl rfl (by omega) ?_
    refine gG_wd (c' := 0 + c) (n' := 0 + n) (by omega) (by omega) ?_
    refine gG_callV (f := mX9_page) (ci := 10) (okMb_V (gMs_at (r := 136) (by decide)) (by decide)) (gDec okL_law tL_law_277) (gMem (i := 1353) rfl rfl) rfl (by decide) rfl (c1 := 0) (n1 := 0) (c := c) (n := n) (As := [.int (xs (i + 1))]) (rest := [.int (-nI 1)]) (d1 := 0 + 3) (d := 2048) hr1.1.1 rfl (by simp [Value.category]) (by omega) ?_
    refine r_page (d := 0) hr1 J.1 _ (fun p2 t2 h2 g1 g2 g5 g7 g8 g9 g10 R rp => ?_) (fun h2 g R rp => ?_)
    · exact absurd g7 (fun w => e p2 g1 g2 g5 w)
    · refine gG_t (lEq (gDec okL_law tL_law_280) rfl (hq h2 (LIV.mk hd rfl rp R tg J ko no)))
set_option maxRecDepth 100000 in
set_option maxHeartbeats 1600000 in
theorem lc_6 (hX : gXt B E mi) (hz : gXz B b L xs) (hi : i + 6 < L) (I : LIV E u x xa o h) (hq : ∀ h', LIV E u x xa o h' → gG B mL_law 2048 c n 1116 (lvL b u x o i) [] h' Q) : gG B mL_law 2048 (0 + c) (0 + n) 350 (lvL b u x o i) [] h Q := by
  obtain ⟨Y, ow, v, rl, s, a, hd, hu, hr, tg, J, ko, no⟩ := I
  subst hu
  refine gG_aload_nR (k := 1) (gDec okL_law tL_law_350) rfl ?_
  refine sc_I (k := 1) hz (gDec okL_law tL_law_351) (gDec okL_law tL_law_352) (gDec okL_law tL_law_354) (gDec okL_law tL_law_355) eL_law_356 rfl rfl rfl (by omega) ?_
  refine gG_callV (f := mX8_heard) (ci := 9) (okMb_V (gMs_at (r := 66) (by decide)) (by decide)) (gDec okL_law tL_law_357) (gMem (i := 470) rfl rfl) rfl (by decide) rfl (c1 := 0) (n1 := 0) (c := c) (n := n) (As := [.int (xs (i + 1))]) (rest := []) (d1 := 0 + 2) (d := 2048) hd.2.1.1 rfl (by simp [Value.category]) (by omega) ?_
  refine x_heard (d := 0) hd J.1 _ (fun j h1 e1 e2 e3 D f => ?_) (fun e => ?_)
  · refine gG_t ?_
    obtain ⟨hr1, ko1, no1, -⟩ := hr.f9 tg ko no (f.n9 (by simp [scT, ruS]))
    refine gG_aload_nR (k := 2) (gDec okL_law tL_law_360) rfl ?_
    refine sc_I (k := 1) hz (gDec okL_law tL_law_361) (gDec okL_law tL_law_362) (gDec okL_law tL_law_364) (gDec okL_law tL_law_365) eL_law_366 rfl rfl rfl (by omega) ?_
    refine gG_wd (c' := 0 + c) (n' := 0 + n) (by omega) (by omega) ?_
    refine gG_callV (f := mX9_heard) (ci := 10) (okMb_V (gMs_at (r := 139) (by decide)) (by decide)) (gDec okL_law tL_law_367) (gMem (i := 1368) rfl rfl) rfl (by decide) rfl (c1 := 0) (n1 := 0) (c := c) (n := n) (As := [.int (xs (i + 1))]) (rest := [.int (nI 1)]) (d1 := 0 + 2) (d := 2048) hr1.1.1 rfl (by simp [Value.category]) (by omega) ?_
    refine r_heard (d := 0) hr1 J.1.2.2.2.2.2.2.1 _ (fun j2 h2 g1 g2 g3 R rp => ?_) (fun h2 g R rp => ?_)
    · obtain rfl := nj (by omega) (by omega) e1 g1
      refine gG_t (lEq (gDec okL_law tL_law_370) rfl (hq h2 (LIV.mk D rfl rp R tg (J_heard J) ko1 no1)))
    · exact absurd e1 (g j e2 e3)
  · refine gG_t ?_
    have hr1 := hr
    refine gG_aload_nR (k := 2) (gDec okL_law tL_law_360) rfl ?_
    refine sc_I (k := 1) hz (gDec okL_law tL_law_361) (gDec okL_law tL_law_362) (gDec okL_law tL_law_364) (gDec okL_law tL_law_365) eL_law_366 rfl rfl rfl (by omega) ?_
    refine gG_wd (c' := 0 + c) (n' := 0 + n) (by omega) (by omega) ?_
    refine gG_callV (f := mX9_heard) (ci := 10) (okMb_V (gMs_at (r := 139) (by decide)) (by decide)) (gDec okL_law tL_law_367) (gMem (i := 1368) rfl rfl) rfl (by decide) rfl (c1 := 0) (n1 := 0) (c := c) (n := n) (As := [.int (xs (i + 1))]) (rest := [.int (nI 0)]) (d1 := 0 + 2) (d := 2048) hr1.1.1 rfl (by simp [Value.category]) (by omega) ?_
    refine r_heard (d := 0) hr1 J.1.2.2.2.2.2.2.1 _ (fun j2 h2 g1 g2 g3 R rp => ?_) (fun h2 g R rp => ?_)
    · exact absurd g1 (e j2 g2 g3)
    · refine gG_t (lEq (gDec okL_law tL_law_370) rfl (hq h2 (LIV.mk hd rfl rp R tg J ko no)))
set_option maxRecDepth 100000 in
set_option maxHeartbeats 1600000 in
theorem lc_8 (hX : gXt B E mi) (hz : gXz B b L xs) (hi : i + 6 < L) (I : LIV E u x xa o h) (hq : ∀ h', LIV E u x xa o h' → gG B mL_law 2048 c n 1116 (lvL b u x o i) [] h' Q) : gG B mL_law 2048 (0 + c) (0 + n) 428 (lvL b u x o i) [] h Q := by
  obtain ⟨Y, ow, v, rl, s, a, hd, hu, hr, tg, J, ko, no⟩ := I
  subst hu
  refine gG_aload_nR (k := 1) (gDec okL_law tL_law_428) rfl ?_
  refine sc_I (k := 1) hz (gDec okL_law tL_law_429) (gDec okL_law tL_law_430) (gDec okL_law tL_law_432) (gDec okL_law tL_law_433) eL_law_434 rfl rfl rfl (by omega) ?_
  refine sc_I (k := 2) hz (gDec okL_law tL_law_435) (gDec okL_law tL_law_436) (gDec okL_law tL_law_438) (gDec okL_law tL_law_439) eL_law_440 rfl rfl rfl (by omega) ?_
  refine sc_I (k := 3) hz (gDec okL_law tL_law_441) (gDec okL_law tL_law_442) (gDec okL_law tL_law_444) (gDec okL_law tL_law_445) eL_law_446 rfl rfl rfl (by omega) ?_
  refine sc_I (k := 4) hz (gDec okL_law tL_law_447) (gDec okL_law tL_law_448) (gDec okL_law tL_law_450) (gDec okL_law tL_law_451) eL_law_452 rfl rfl rfl (by omega) ?_
  refine gG_callV (f := mX8_black) (ci := 9) (okMb_V (gMs_at (r := 68) (by decide)) (by decide)) (gDec okL_law tL_law_453) (gMem (i := 482) rfl rfl) rfl (by decide) rfl (c1 := 0) (n1 := 0) (c := c) (n := n) (As := [.int (xs (i + 1)), .int (xs (i + 2)), .int (xs (i + 3)), .int (xs (i + 4))]) (rest := []) (d1 := 0 + 5) (d := 2048) hd.2.1.1 rfl (by simp [Value.category]) (by omega) ?_
  refine x_black (d := 0) hd J.1 _ _ _ _ (fun p q w z h1 e1 e2 e3 e4 e5 e6 e7 e8 e9 D f => ?_) (fun e => ?_)
  · refine gG_t ?_
    obtain ⟨hr1, ko1, no1, -⟩ := hr.f9 tg ko no (f.n9 (by simp [scT, ruS]))
    refine gG_aload_nR (k := 2) (gDec okL_law tL_law_456) rfl ?_
    refine sc_I (k := 1) hz (gDec okL_law tL_law_457) (gDec okL_law tL_law_458) (gDec okL_law tL_law_460) (gDec okL_law tL_law_461) eL_law_462 rfl rfl rfl (by omega) ?_
    refine sc_I (k := 2) hz (gDec okL_law tL_law_463) (gDec okL_law tL_law_464) (gDec okL_law tL_law_466) (gDec okL_law tL_law_467) eL_law_468 rfl rfl rfl (by omega) ?_
    refine sc_I (k := 3) hz (gDec okL_law tL_law_469) (gDec okL_law tL_law_470) (gDec okL_law tL_law_472) (gDec okL_law tL_law_473) eL_law_474 rfl rfl rfl (by omega) ?_
    refine sc_I (k := 4) hz (gDec okL_law tL_law_475) (gDec okL_law tL_law_476) (gDec okL_law tL_law_478) (gDec okL_law tL_law_479) eL_law_480 rfl rfl rfl (by omega) ?_
    refine gG_wd (c' := 0 + c) (n' := 0 + n) (by omega) (by omega) ?_
    refine gG_callV (f := mX9_black) (ci := 10) (okMb_V (gMs_at (r := 142) (by decide)) (by decide)) (gDec okL_law tL_law_481) (gMem (i := 1380) rfl rfl) rfl (by decide) rfl (c1 := 0) (n1 := 0) (c := c) (n := n) (As := [.int (xs (i + 1)), .int (xs (i + 2)), .int (xs (i + 3)), .int (xs (i + 4))]) (rest := [.int (nI (a 39 p + 1))]) (d1 := 0 + 2) (d := 2048) hr1.1.1 rfl (by simp [Value.category]) (by omega) ?_
    refine r_black (d := 0) hr1 J.1 _ _ _ _ (fun p2 q2 w2 z2 h2 g1 g2 g3 g4 g5 g6 g7 g8 g9 R rp => ?_) (fun h2 g R rp => ?_)
    · have c36 := J.1.1.2.2.2.2.2.1
      have c31 := J.1.1.2.2.2.2.1
      have m := (J.1.2.2.2.1 _ (J.1.2.2.2.2.1 p e2).1).2.2.2.1
      have m2 := (J.1.2.2.2.1 _ (J.1.2.2.2.2.1 p2 g2).1).2.2.2.1
      obtain rfl := nj (by omega) (by omega) e1 g1
      obtain rfl := nj (by omega) (by omega) e3 g3
      obtain rfl := nj (by omega) (by omega) e4 g4
      obtain rfl := nj (by omega) (by omega) e7 g7
      refine gG_t (lEq (gDec okL_law tL_law_484) rfl (hq h2 (LIV.mk D rfl rp R tg (J_black J e2 e9 e8) ko1 no1)))
    · exact absurd ⟨p, q, w, z, e1, e2, e3, e4, e5, e6, e7, e8, e9⟩ g
  · refine gG_t ?_
    have hr1 := hr
    refine gG_aload_nR (k := 2) (gDec okL_law tL_law_456) rfl ?_
    refine sc_I (k := 1) hz (gDec okL_law tL_law_457) (gDec okL_law tL_law_458) (gDec okL_law tL_law_460) (gDec okL_law tL_law_461) eL_law_462 rfl rfl rfl (by omega) ?_
    refine sc_I (k := 2) hz (gDec okL_law tL_law_463) (gDec okL_law tL_law_464) (gDec okL_law tL_law_466) (gDec okL_law tL_law_467) eL_law_468 rfl rfl rfl (by omega) ?_
    refine sc_I (k := 3) hz (gDec okL_law tL_law_469) (gDec okL_law tL_law_470) (gDec okL_law tL_law_472) (gDec okL_law tL_law_473) eL_law_474 rfl rfl rfl (by omega) ?_
    refine sc_I (k := 4) hz (gDec okL_law tL_law_475) (gDec okL_law tL_law_476) (gDec okL_law tL_law_478) (gDec okL_law tL_law_479) eL_law_480 rfl rfl rfl (by omega) ?_
    refine gG_wd (c' := 0 + c) (n' := 0 + n) (by omega) (by omega) ?_
    refine gG_callV (f := mX9_black) (ci := 10) (okMb_V (gMs_at (r := 142) (by decide)) (by decide)) (gDec okL_law tL_law_481) (gMem (i := 1380) rfl rfl) rfl (by decide) rfl (c1 := 0) (n1 := 0) (c := c) (n := n) (As := [.int (xs (i + 1)), .int (xs (i + 2)), .int (xs (i + 3)), .int (xs (i + 4))]) (rest := [.int (-nI 1)]) (d1 := 0 + 2) (d := 2048) hr1.1.1 rfl (by simp [Value.category]) (by omega) ?_
    refine r_black (d := 0) hr1 J.1 _ _ _ _ (fun p2 q2 w2 z2 h2 g1 g2 g3 g4 g5 g6 g7 g8 g9 R rp => ?_) (fun h2 g R rp => ?_)
    · exact absurd ⟨p2, q2, w2, z2, g1, g2, g3, g4, g5, g6, g7, g8, g9⟩ e
    · refine gG_t (lEq (gDec okL_law tL_law_484) rfl (hq h2 (LIV.mk hd rfl rp R tg J ko no)))
set_option maxRecDepth 100000 in
set_option maxHeartbeats 1600000 in
theorem lc_9 (hX : gXt B E mi) (hz : gXz B b L xs) (hi : i + 6 < L) (I : LIV E u x xa o h) (hq : ∀ h', LIV E u x xa o h' → gG B mL_law 2048 c n 1116 (lvL b u x o i) [] h' Q) : gG B mL_law 2048 (0 + c) (0 + n) 489 (lvL b u x o i) [] h Q := by
  obtain ⟨Y, ow, v, rl, s, a, hd, hu, hr, tg, J, ko, no⟩ := I
  subst hu
  refine gG_aload_nR (k := 1) (gDec okL_law tL_law_489) rfl ?_
  refine sc_I (k := 1) hz (gDec okL_law tL_law_490) (gDec okL_law tL_law_491) (gDec okL_law tL_law_493) (gDec okL_law tL_law_494) eL_law_495 rfl rfl rfl (by omega) ?_
  refine sc_I (k := 2) hz (gDec okL_law tL_law_496) (gDec okL_law tL_law_497) (gDec okL_law tL_law_499) (gDec okL_law tL_law_500) eL_law_501 rfl rfl rfl (by omega) ?_
  refine gG_callV (f := mX8_clear) (ci := 9) (okMb_V (gMs_at (r := 69) (by decide)) (by decide)) (gDec okL_law tL_law_502) (gMem (i := 490) rfl rfl) rfl (by decide) rfl (c1 := 0) (n1 := 0) (c := c) (n := n) (As := [.int (xs (i + 1)), .int (xs (i + 2))]) (rest := []) (d1 := 0 + 5) (d := 2048) hd.2.1.1 rfl (by simp [Value.category]) (by omega) ?_
  refine x_clear (d := 0) hd J.1 _ _ (fun p q h1 e1 e2 e3 e4 D f => ?_) (fun e => ?_)
  · refine gG_t ?_
    obtain ⟨hr1, ko1, no1, -⟩ := hr.f9 tg ko no (f.n9 (by simp [scT, ruS]))
    refine gG_aload_nR (k := 2) (gDec okL_law tL_law_505) rfl ?_
    refine sc_I (k := 1) hz (gDec okL_law tL_law_506) (gDec okL_law tL_law_507) (gDec okL_law tL_law_509) (gDec okL_law tL_law_510) eL_law_511 rfl rfl rfl (by omega) ?_
    refine sc_I (k := 2) hz (gDec okL_law tL_law_512) (gDec okL_law tL_law_513) (gDec okL_law tL_law_515) (gDec okL_law tL_law_516) eL_law_517 rfl rfl rfl (by omega) ?_
    refine gG_wd (c' := 0 + c) (n' := 0 + n) (by omega) (by omega) ?_
    refine gG_callV (f := mX9_clear) (ci := 10) (okMb_V (gMs_at (r := 143) (by decide)) (by decide)) (gDec okL_law tL_law_518) (gMem (i := 1384) rfl rfl) rfl (by decide) rfl (c1 := 0) (n1 := 0) (c := c) (n := n) (As := [.int (xs (i + 1)), .int (xs (i + 2))]) (rest := [.int (nI 1)]) (d1 := 0 + 2) (d := 2048) hr1.1.1 rfl (by simp [Value.category]) (by omega) ?_
    refine r_clear (d := 0) hr1 J.1 _ _ (fun p2 q2 h2 g1 g2 g3 g4 R rp => ?_) (fun h2 g R rp => ?_)
    · have c36 := J.1.1.2.2.2.2.2.1
      have c31 := J.1.1.2.2.2.2.1
      have m := (J.1.2.2.2.2.1 p e2).2.1
      have m2 := (J.1.2.2.2.2.1 p2 g2).2.1
      obtain rfl := nj (by omega) (by omega) e1 g1
      obtain rfl := nj (by omega) (by omega) e3 g3
      refine gG_t (lEq (gDec okL_law tL_law_521) rfl (hq h2 (LIV.mk D rfl rp R tg (J_clear J e2 e4) ko1 no1)))
    · exact absurd e4 (fun w => g p q e1 e2 e3 w)
  · refine gG_t ?_
    have hr1 := hr
    refine gG_aload_nR (k := 2) (gDec okL_law tL_law_505) rfl ?_
    refine sc_I (k := 1) hz (gDec okL_law tL_law_506) (gDec okL_law tL_law_507) (gDec okL_law tL_law_509) (gDec okL_law tL_law_510) eL_law_511 rfl rfl rfl (by omega) ?_
    refine sc_I (k := 2) hz (gDec okL_law tL_law_512) (gDec okL_law tL_law_513) (gDec okL_law tL_law_515) (gDec okL_law tL_law_516) eL_law_517 rfl rfl rfl (by omega) ?_
    refine gG_wd (c' := 0 + c) (n' := 0 + n) (by omega) (by omega) ?_
    refine gG_callV (f := mX9_clear) (ci := 10) (okMb_V (gMs_at (r := 143) (by decide)) (by decide)) (gDec okL_law tL_law_518) (gMem (i := 1384) rfl rfl) rfl (by decide) rfl (c1 := 0) (n1 := 0) (c := c) (n := n) (As := [.int (xs (i + 1)), .int (xs (i + 2))]) (rest := [.int (nI 0)]) (d1 := 0 + 2) (d := 2048) hr1.1.1 rfl (by simp [Value.category]) (by omega) ?_
    refine r_clear (d := 0) hr1 J.1 _ _ (fun p2 q2 h2 g1 g2 g3 g4 R rp => ?_) (fun h2 g R rp => ?_)
    · exact absurd g4 (fun w => e p2 q2 g1 g2 g3 w)
    · refine gG_t (lEq (gDec okL_law tL_law_521) rfl (hq h2 (LIV.mk hd rfl rp R tg J ko no)))
set_option maxRecDepth 100000 in
set_option maxHeartbeats 1600000 in
theorem lc_12 (hX : gXt B E mi) (hz : gXz B b L xs) (hi : i + 6 < L) (I : LIV E u x xa o h) (hq : ∀ h', LIV E u x xa o h' → gG B mL_law 2048 c n 1116 (lvL b u x o i) [] h' Q) : gG B mL_law 2048 (4 + c) (600 + n) 686 (lvL b u x o i) [] h Q := by
  obtain ⟨Y, ow, v, rl, s, a, hd, hu, hr, tg, J, ko, no⟩ := I
  subst hu
  refine gG_aload_nR (k := 1) (gDec okL_law tL_law_686) rfl ?_
  refine sc_I (k := 1) hz (gDec okL_law tL_law_687) (gDec okL_law tL_law_688) (gDec okL_law tL_law_690) (gDec okL_law tL_law_691) eL_law_692 rfl rfl rfl (by omega) ?_
  refine sc_I (k := 2) hz (gDec okL_law tL_law_693) (gDec okL_law tL_law_694) (gDec okL_law tL_law_696) (gDec okL_law tL_law_697) eL_law_698 rfl rfl rfl (by omega) ?_
  refine sc_I (k := 3) hz (gDec okL_law tL_law_699) (gDec okL_law tL_law_700) (gDec okL_law tL_law_702) (gDec okL_law tL_law_703) eL_law_704 rfl rfl rfl (by omega) ?_
  refine gG_callV (f := mX8_ask) (ci := 9) (okMb_V (gMs_at (r := 72) (by decide)) (by decide)) (gDec okL_law tL_law_705) (gMem (i := 693) rfl rfl) rfl (by decide) rfl (c1 := 4) (n1 := 600) (c := c) (n := n) (As := [.int (xs (i + 1)), .int (xs (i + 2)), .int (xs (i + 3))]) (rest := []) (d1 := 0 + 8) (d := 2048) hd.2.1.1 rfl (by simp [Value.category]) (by omega) ?_
  refine x_ask (d := 0) hX hd J.1 J.2.1 J.2.2.1 (fun j => hr.2.2.2.2.2.2 51 j (by decide)) _ _ _ (fun p q w h1 Y6 ow6 e1 e2 e3 e4 e5 e6 e7 e8 D F W y6 => ?_) (fun e => ?_)
  · refine gG_t ?_
    obtain ⟨hr1, ko1, no1, -⟩ := hr.f9 tg ko no F
    have tg1 := tg.nw hr ko W
    refine gG_aload_nR (k := 2) (gDec okL_law tL_law_708) rfl ?_
    refine sc_I (k := 1) hz (gDec okL_law tL_law_709) (gDec okL_law tL_law_710) (gDec okL_law tL_law_712) (gDec okL_law tL_law_713) eL_law_714 rfl rfl rfl (by omega) ?_
    refine sc_I (k := 2) hz (gDec okL_law tL_law_715) (gDec okL_law tL_law_716) (gDec okL_law tL_law_718) (gDec okL_law tL_law_719) eL_law_720 rfl rfl rfl (by omega) ?_
    refine sc_I (k := 3) hz (gDec okL_law tL_law_721) (gDec okL_law tL_law_722) (gDec okL_law tL_law_724) (gDec okL_law tL_law_725) eL_law_726 rfl rfl rfl (by omega) ?_
    refine gG_wd (c' := 0 + c) (n' := 0 + n) (by omega) (by omega) ?_
    refine gG_callV (f := mX9_ask) (ci := 10) (okMb_V (gMs_at (r := 151) (by decide)) (by decide)) (gDec okL_law tL_law_727) (gMem (i := 1419) rfl rfl) rfl (by decide) rfl (c1 := 0) (n1 := 0) (c := c) (n := n) (As := [.int (xs (i + 1)), .int (xs (i + 2)), .int (xs (i + 3))]) (rest := [.int (nI (s 46))]) (d1 := 0 + 3) (d := 2048) hr1.1.1 rfl (by simp [Value.category]) (by omega) ?_
    refine r_ask (d := 0) hr1 J.1 J.2.1 _ _ _ (fun p2 q2 w2 h2 g1 g2 g3 g4 g5 g6 g7 g8 R rp => ?_) (fun h2 g R rp => ?_)
    · have c25 := J.1.1.2.2.1
      obtain rfl := nj (by omega) (by omega) e1 g1
      obtain rfl := nj (by omega) (by omega) e3 g3
      obtain rfl := nj (by omega) (by omega) e4 g4
      refine gG_t (lEq (gDec okL_law tL_law_730) rfl (hq h2 (LIV.mk D y6 rp R tg1 (J_ask J e2 e5 e6 e7 e8) ko1 no1)))
    · exact absurd ⟨p, q, w, e1, e2, e3, e4, e5, e6, e7, e8⟩ g
  · refine gG_t ?_
    have hr1 := hr
    refine gG_aload_nR (k := 2) (gDec okL_law tL_law_708) rfl ?_
    refine sc_I (k := 1) hz (gDec okL_law tL_law_709) (gDec okL_law tL_law_710) (gDec okL_law tL_law_712) (gDec okL_law tL_law_713) eL_law_714 rfl rfl rfl (by omega) ?_
    refine sc_I (k := 2) hz (gDec okL_law tL_law_715) (gDec okL_law tL_law_716) (gDec okL_law tL_law_718) (gDec okL_law tL_law_719) eL_law_720 rfl rfl rfl (by omega) ?_
    refine sc_I (k := 3) hz (gDec okL_law tL_law_721) (gDec okL_law tL_law_722) (gDec okL_law tL_law_724) (gDec okL_law tL_law_725) eL_law_726 rfl rfl rfl (by omega) ?_
    refine gG_wd (c' := 0 + c) (n' := 0 + n) (by omega) (by omega) ?_
    refine gG_callV (f := mX9_ask) (ci := 10) (okMb_V (gMs_at (r := 151) (by decide)) (by decide)) (gDec okL_law tL_law_727) (gMem (i := 1419) rfl rfl) rfl (by decide) rfl (c1 := 0) (n1 := 0) (c := c) (n := n) (As := [.int (xs (i + 1)), .int (xs (i + 2)), .int (xs (i + 3))]) (rest := [.int (-nI 1)]) (d1 := 0 + 3) (d := 2048) hr1.1.1 rfl (by simp [Value.category]) (by omega) ?_
    refine r_ask (d := 0) hr1 J.1 J.2.1 _ _ _ (fun p2 q2 w2 h2 g1 g2 g3 g4 g5 g6 g7 g8 R rp => ?_) (fun h2 g R rp => ?_)
    · exact absurd ⟨p2, q2, w2, g1, g2, g3, g4, g5, g6, g7, g8⟩ e
    · refine gG_t (lEq (gDec okL_law tL_law_730) rfl (hq h2 (LIV.mk hd rfl rp R tg J ko no)))
set_option maxRecDepth 100000 in
set_option maxHeartbeats 1600000 in
theorem lc_13 (hX : gXt B E mi) (hz : gXz B b L xs) (hi : i + 6 < L) (I : LIV E u x xa o h) (hq : ∀ h', LIV E u x xa o h' → gG B mL_law 2048 c n 1116 (lvL b u x o i) [] h' Q) : gG B mL_law 2048 (0 + c) (0 + n) 735 (lvL b u x o i) [] h Q := by
  obtain ⟨Y, ow, v, rl, s, a, hd, hu, hr, tg, J, ko, no⟩ := I
  subst hu
  refine gG_aload_nR (k := 1) (gDec okL_law tL_law_735) rfl ?_
  refine sc_I (k := 1) hz (gDec okL_law tL_law_736) (gDec okL_law tL_law_737) (gDec okL_law tL_law_739) (gDec okL_law tL_law_740) eL_law_741 rfl rfl rfl (by omega) ?_
  refine sc_I (k := 2) hz (gDec okL_law tL_law_742) (gDec okL_law tL_law_743) (gDec okL_law tL_law_745) (gDec okL_law tL_law_746) eL_law_747 rfl rfl rfl (by omega) ?_
  refine gG_callV (f := mX8_narrow) (ci := 9) (okMb_V (gMs_at (r := 73) (by decide)) (by decide)) (gDec okL_law tL_law_748) (gMem (i := 771) rfl rfl) rfl (by decide) rfl (c1 := 0) (n1 := 0) (c := c) (n := n) (As := [.int (xs (i + 1)), .int (xs (i + 2))]) (rest := []) (d1 := 0 + 7) (d := 2048) hd.2.1.1 rfl (by simp [Value.category]) (by omega) ?_
  refine x_narrow (d := 0) hd J.1 J.2.1 J.2.2.2.1 J.2.2.2.2.1.2.2 _ _ (fun p q h1 e1 e2 e3 e4 e5 e6 e7 D f => ?_) (fun e => ?_)
  · refine gG_t ?_
    obtain ⟨hr1, ko1, no1, -⟩ := hr.f9 tg ko no (f.n9 (by simp [scT, ruS]))
    refine gG_aload_nR (k := 2) (gDec okL_law tL_law_751) rfl ?_
    refine sc_I (k := 1) hz (gDec okL_law tL_law_752) (gDec okL_law tL_law_753) (gDec okL_law tL_law_755) (gDec okL_law tL_law_756) eL_law_757 rfl rfl rfl (by omega) ?_
    refine sc_I (k := 2) hz (gDec okL_law tL_law_758) (gDec okL_law tL_law_759) (gDec okL_law tL_law_761) (gDec okL_law tL_law_762) eL_law_763 rfl rfl rfl (by omega) ?_
    refine gG_wd (c' := 0 + c) (n' := 0 + n) (by omega) (by omega) ?_
    refine gG_callV (f := mX9_narrow) (ci := 10) (okMb_V (gMs_at (r := 160) (by decide)) (by decide)) (gDec okL_law tL_law_764) (gMem (i := 1459) rfl rfl) rfl (by decide) rfl (c1 := 0) (n1 := 0) (c := c) (n := n) (As := [.int (xs (i + 1)), .int (xs (i + 2))]) (rest := [.int (nI (cntN (fitB s a rl p) (s 27)) - nI (cntN (fitB s (nwA a p q) rl p) (s 27)))]) (d1 := 0 + 7) (d := 2048) hr1.1.1 rfl (by simp [Value.category]) (by omega) ?_
    refine r_narrow (d := 0) hr1 J.1 J.2.1 J.2.2.2.2.1.1 _ _ (fun p2 q2 h2 g1 g2 g3 g4 g5 g6 g7 R rp => ?_) (fun h2 g R rp => ?_)
    · have c46 := J.2.1.1
      obtain rfl := nj (by omega) (by omega) e1 g1
      obtain rfl := nj (by omega) (by omega) e3 g3
      refine gG_t (lEq (gDec okL_law tL_law_767) rfl (hq h2 (LIV.mk D rfl rp R tg (J_narrow J e2 e4 e5 e6) ko1 no1)))
    · exact absurd e7 (fun w => g p q e1 e2 e3 e4 e5 e6 w)
  · refine gG_t ?_
    have hr1 := hr
    refine gG_aload_nR (k := 2) (gDec okL_law tL_law_751) rfl ?_
    refine sc_I (k := 1) hz (gDec okL_law tL_law_752) (gDec okL_law tL_law_753) (gDec okL_law tL_law_755) (gDec okL_law tL_law_756) eL_law_757 rfl rfl rfl (by omega) ?_
    refine sc_I (k := 2) hz (gDec okL_law tL_law_758) (gDec okL_law tL_law_759) (gDec okL_law tL_law_761) (gDec okL_law tL_law_762) eL_law_763 rfl rfl rfl (by omega) ?_
    refine gG_wd (c' := 0 + c) (n' := 0 + n) (by omega) (by omega) ?_
    refine gG_callV (f := mX9_narrow) (ci := 10) (okMb_V (gMs_at (r := 160) (by decide)) (by decide)) (gDec okL_law tL_law_764) (gMem (i := 1459) rfl rfl) rfl (by decide) rfl (c1 := 0) (n1 := 0) (c := c) (n := n) (As := [.int (xs (i + 1)), .int (xs (i + 2))]) (rest := [.int (-nI 1)]) (d1 := 0 + 7) (d := 2048) hr1.1.1 rfl (by simp [Value.category]) (by omega) ?_
    refine r_narrow (d := 0) hr1 J.1 J.2.1 J.2.2.2.2.1.1 _ _ (fun p2 q2 h2 g1 g2 g3 g4 g5 g6 g7 R rp => ?_) (fun h2 g R rp => ?_)
    · exact absurd g7 (fun w => e p2 q2 g1 g2 g3 g4 g5 g6 w)
    · refine gG_t (lEq (gDec okL_law tL_law_767) rfl (hq h2 (LIV.mk hd rfl rp R tg J ko no)))
set_option maxRecDepth 100000 in
set_option maxHeartbeats 1600000 in
theorem lc_16 (hX : gXt B E mi) (hz : gXz B b L xs) (hi : i + 6 < L) (I : LIV E u x xa o h) (hq : ∀ h', LIV E u x xa o h' → gG B mL_law 2048 c n 1116 (lvL b u x o i) [] h' Q) : gG B mL_law 2048 (0 + c) (0 + n) 850 (lvL b u x o i) [] h Q := by
  obtain ⟨Y, ow, v, rl, s, a, hd, hu, hr, tg, J, ko, no⟩ := I
  subst hu
  refine gG_aload_nR (k := 1) (gDec okL_law tL_law_850) rfl ?_
  refine sc_I (k := 1) hz (gDec okL_law tL_law_851) (gDec okL_law tL_law_852) (gDec okL_law tL_law_854) (gDec okL_law tL_law_855) eL_law_856 rfl rfl rfl (by omega) ?_
  refine gG_callV (f := mX8_found) (ci := 9) (okMb_V (gMs_at (r := 76) (by decide)) (by decide)) (gDec okL_law tL_law_857) (gMem (i := 852) rfl rfl) rfl (by decide) rfl (c1 := 0) (n1 := 0) (c := c) (n := n) (As := [.int (xs (i + 1))]) (rest := []) (d1 := 0 + 7) (d := 2048) hd.2.1.1 rfl (by simp [Value.category]) (by omega) ?_
  refine x_found (d := 0) hd J.1 J.2.1 J.2.2.2.1 J.2.2.2.2.1.2.2 _ (fun p h1 e1 e2 D f => ?_) (fun e => ?_)
  · refine gG_t ?_
    obtain ⟨hr1, ko1, no1, -⟩ := hr.f9 tg ko no (f.n9 (by simp [scT, ruS]))
    refine gG_aload_nR (k := 2) (gDec okL_law tL_law_860) rfl ?_
    refine sc_I (k := 1) hz (gDec okL_law tL_law_861) (gDec okL_law tL_law_862) (gDec okL_law tL_law_864) (gDec okL_law tL_law_865) eL_law_866 rfl rfl rfl (by omega) ?_
    refine gG_wd (c' := 0 + c) (n' := 0 + n) (by omega) (by omega) ?_
    refine gG_callV (f := mX9_found) (ci := 10) (okMb_V (gMs_at (r := 157) (by decide)) (by decide)) (gDec okL_law tL_law_867) (gMem (i := 1431) rfl rfl) rfl (by decide) rfl (c1 := 0) (n1 := 0) (c := c) (n := n) (As := [.int (xs (i + 1))]) (rest := [.int (nI (cntN (fitB s a rl p) (s 27)))]) (d1 := 0 + 7) (d := 2048) hr1.1.1 rfl (by simp [Value.category]) (by omega) ?_
    refine r_found (d := 0) hr1 J.1 J.2.1 J.2.2.2.2.1.1 _ (fun p2 h2 g1 g2 R rp => ?_) (fun h2 g R rp => ?_)
    · have c46 := J.2.1.1
      obtain rfl := nj (by omega) (by omega) e1 g1
      refine gG_t (lEq (gDec okL_law tL_law_870) rfl (hq h2 (LIV.mk D rfl rp R tg J ko1 no1)))
    · exact absurd e1 (g p e2)
  · refine gG_t ?_
    have hr1 := hr
    refine gG_aload_nR (k := 2) (gDec okL_law tL_law_860) rfl ?_
    refine sc_I (k := 1) hz (gDec okL_law tL_law_861) (gDec okL_law tL_law_862) (gDec okL_law tL_law_864) (gDec okL_law tL_law_865) eL_law_866 rfl rfl rfl (by omega) ?_
    refine gG_wd (c' := 0 + c) (n' := 0 + n) (by omega) (by omega) ?_
    refine gG_callV (f := mX9_found) (ci := 10) (okMb_V (gMs_at (r := 157) (by decide)) (by decide)) (gDec okL_law tL_law_867) (gMem (i := 1431) rfl rfl) rfl (by decide) rfl (c1 := 0) (n1 := 0) (c := c) (n := n) (As := [.int (xs (i + 1))]) (rest := [.int (-nI 1)]) (d1 := 0 + 7) (d := 2048) hr1.1.1 rfl (by simp [Value.category]) (by omega) ?_
    refine r_found (d := 0) hr1 J.1 J.2.1 J.2.2.2.2.1.1 _ (fun p2 h2 g1 g2 R rp => ?_) (fun h2 g R rp => ?_)
    · exact absurd g1 (e p2 g2)
    · refine gG_t (lEq (gDec okL_law tL_law_870) rfl (hq h2 (LIV.mk hd rfl rp R tg J ko no)))
set_option maxRecDepth 100000 in
set_option maxHeartbeats 1600000 in
theorem lc_17 (hX : gXt B E mi) (hz : gXz B b L xs) (hi : i + 6 < L) (I : LIV E u x xa o h) (hq : ∀ h', LIV E u x xa o h' → gG B mL_law 2048 c n 1116 (lvL b u x o i) [] h' Q) : gG B mL_law 2048 (0 + c) (0 + n) 875 (lvL b u x o i) [] h Q := by
  obtain ⟨Y, ow, v, rl, s, a, hd, hu, hr, tg, J, ko, no⟩ := I
  subst hu
  refine gG_aload_nR (k := 1) (gDec okL_law tL_law_875) rfl ?_
  refine sc_I (k := 1) hz (gDec okL_law tL_law_876) (gDec okL_law tL_law_877) (gDec okL_law tL_law_879) (gDec okL_law tL_law_880) eL_law_881 rfl rfl rfl (by omega) ?_
  refine sc_I (k := 2) hz (gDec okL_law tL_law_882) (gDec okL_law tL_law_883) (gDec okL_law tL_law_885) (gDec okL_law tL_law_886) eL_law_887 rfl rfl rfl (by omega) ?_
  refine gG_callV (f := mX8_finds) (ci := 9) (okMb_V (gMs_at (r := 77) (by decide)) (by decide)) (gDec okL_law tL_law_888) (gMem (i := 856) rfl rfl) rfl (by decide) rfl (c1 := 0) (n1 := 0) (c := c) (n := n) (As := [.int (xs (i + 1)), .int (xs (i + 2))]) (rest := []) (d1 := 0 + 7) (d := 2048) hd.2.1.1 rfl (by simp [Value.category]) (by omega) ?_
  refine x_finds (d := 0) hd J.1 J.2.1 J.2.2.2.1 J.2.2.2.2.1.2.2 _ _ (fun p k q h1 e1 e2 e3 e4 e5 e6 e7 D f => ?_) (fun h1 e D f => ?_)
  · refine gG_t ?_
    obtain ⟨hr1, ko1, no1, -⟩ := hr.f9 tg ko no (f.n9 (by simp [scT, ruS]))
    refine gG_aload_nR (k := 2) (gDec okL_law tL_law_891) rfl ?_
    refine sc_I (k := 1) hz (gDec okL_law tL_law_892) (gDec okL_law tL_law_893) (gDec okL_law tL_law_895) (gDec okL_law tL_law_896) eL_law_897 rfl rfl rfl (by omega) ?_
    refine sc_I (k := 2) hz (gDec okL_law tL_law_898) (gDec okL_law tL_law_899) (gDec okL_law tL_law_901) (gDec okL_law tL_law_902) eL_law_903 rfl rfl rfl (by omega) ?_
    refine gG_wd (c' := 0 + c) (n' := 0 + n) (by omega) (by omega) ?_
    refine gG_callV (f := mX9_finds) (ci := 10) (okMb_V (gMs_at (r := 159) (by decide)) (by decide)) (gDec okL_law tL_law_904) (gMem (i := 1455) rfl rfl) rfl (by decide) rfl (c1 := 0) (n1 := 0) (c := c) (n := n) (As := [.int (xs (i + 1)), .int (xs (i + 2))]) (rest := [.int (nI q)]) (d1 := 0 + 6) (d := 2048) hr1.1.1 rfl (by simp [Value.category]) (by omega) ?_
    refine r_finds (d := 0) hr1 J.1 J.2.1 J.2.2.2.2.1.1 _ _ (fun p2 k2 q2 h2 g1 g2 g3 g4 g5 g6 g7 R rp => ?_) (fun h2 g R rp => ?_)
    · have c46 := J.2.1.1
      obtain rfl := nj (by omega) (by omega) e1 g1
      obtain rfl := nj e4 g4 e3 g3
      obtain rfl := cnt_eq e6 g6 (e7.trans g7.symm)
      refine gG_t (lEq (gDec okL_law tL_law_907) rfl (hq h2 (LIV.mk D rfl rp R tg J ko1 no1)))
    · have g1 := g p k e1 e2 e3 e4
      have g2 := cnt_lt e5 e6
      omega
  · refine gG_t ?_
    obtain ⟨hr1, ko1, no1, -⟩ := hr.f9 tg ko no (f.n9 (by simp [scT, ruS]))
    refine gG_aload_nR (k := 2) (gDec okL_law tL_law_891) rfl ?_
    refine sc_I (k := 1) hz (gDec okL_law tL_law_892) (gDec okL_law tL_law_893) (gDec okL_law tL_law_895) (gDec okL_law tL_law_896) eL_law_897 rfl rfl rfl (by omega) ?_
    refine sc_I (k := 2) hz (gDec okL_law tL_law_898) (gDec okL_law tL_law_899) (gDec okL_law tL_law_901) (gDec okL_law tL_law_902) eL_law_903 rfl rfl rfl (by omega) ?_
    refine gG_wd (c' := 0 + c) (n' := 0 + n) (by omega) (by omega) ?_
    refine gG_callV (f := mX9_finds) (ci := 10) (okMb_V (gMs_at (r := 159) (by decide)) (by decide)) (gDec okL_law tL_law_904) (gMem (i := 1455) rfl rfl) rfl (by decide) rfl (c1 := 0) (n1 := 0) (c := c) (n := n) (As := [.int (xs (i + 1)), .int (xs (i + 2))]) (rest := [.int (-nI 1)]) (d1 := 0 + 6) (d := 2048) hr1.1.1 rfl (by simp [Value.category]) (by omega) ?_
    refine r_finds (d := 0) hr1 J.1 J.2.1 J.2.2.2.2.1.1 _ _ (fun p2 k2 q2 h2 g1 g2 g3 g4 g5 g6 g7 R rp => ?_) (fun h2 g R rp => ?_)
    · have z1 := e p2 k2 g1 g2 g3 g4
      have z2 := cnt_lt g5 g6
      omega
    · refine gG_t (lEq (gDec okL_law tL_law_907) rfl (hq h2 (LIV.mk D rfl rp R tg J ko1 no1)))
set_option maxRecDepth 100000 in
set_option maxHeartbeats 1600000 in
theorem lc_18 (hX : gXt B E mi) (hz : gXz B b L xs) (hi : i + 6 < L) (I : LIV E u x xa o h) (hq : ∀ h', LIV E u x xa o h' → gG B mL_law 2048 c n 1116 (lvL b u x o i) [] h' Q) : gG B mL_law 2048 (300 + c) (3900 + n) 912 (lvL b u x o i) [] h Q := by
  obtain ⟨Y, ow, v, rl, s, a, hd, hu, hr, tg, J, ko, no⟩ := I
  subst hu
  refine gG_aload_nR (k := 1) (gDec okL_law tL_law_912) rfl ?_
  refine sc_I (k := 1) hz (gDec okL_law tL_law_913) (gDec okL_law tL_law_914) (gDec okL_law tL_law_916) (gDec okL_law tL_law_917) eL_law_918 rfl rfl rfl (by omega) ?_
  refine sc_I (k := 2) hz (gDec okL_law tL_law_919) (gDec okL_law tL_law_920) (gDec okL_law tL_law_922) (gDec okL_law tL_law_923) eL_law_924 rfl rfl rfl (by omega) ?_
  refine gG_callV (f := mX8_answer) (ci := 9) (okMb_V (gMs_at (r := 78) (by decide)) (by decide)) (gDec okL_law tL_law_925) (gMem (i := 860) rfl rfl) rfl (by decide) rfl (c1 := 300) (n1 := 3900) (c := c) (n := n) (As := [.int (xs (i + 1)), .int (xs (i + 2))]) (rest := []) (d1 := 0 + 9) (d := 2048) hd.2.1.1 rfl (by simp [Value.category]) (by omega) ?_
  refine x_answer (d := 0) hX hd J.1 J.2.1 J.2.2.1 J.2.2.2.1 J.2.2.2.2.1.2.2 _ _ (fun p k o1 h1 Y6 ow6 e1 e2 e3 e4 e5 e6 D G F W y6 => ?_) (fun e => ?_)
  · refine gG_t ?_
    obtain ⟨hr1, ko1, no1, -⟩ := hr.f9 tg ko no F
    have tg1 := tg.nw hr ko W
    refine gG_aload_nR (k := 2) (gDec okL_law tL_law_928) rfl ?_
    refine sc_I (k := 1) hz (gDec okL_law tL_law_929) (gDec okL_law tL_law_930) (gDec okL_law tL_law_932) (gDec okL_law tL_law_933) eL_law_934 rfl rfl rfl (by omega) ?_
    refine sc_I (k := 2) hz (gDec okL_law tL_law_935) (gDec okL_law tL_law_936) (gDec okL_law tL_law_938) (gDec okL_law tL_law_939) eL_law_940 rfl rfl rfl (by omega) ?_
    refine gG_wd (c' := 0 + c) (n' := 0 + n) (by omega) (by omega) ?_
    refine gG_callV (f := mX9_answer) (ci := 10) (okMb_V (gMs_at (r := 168) (by decide)) (by decide)) (gDec okL_law tL_law_941) (gMem (i := 1475) rfl rfl) rfl (by decide) rfl (c1 := 0) (n1 := 0) (c := c) (n := n) (As := [.int (xs (i + 1)), .int (xs (i + 2))]) (rest := [.int (nI o1.2.2)]) (d1 := 0 + 7) (d := 2048) hr1.1.1 rfl (by simp [Value.category]) (by omega) ?_
    refine r_answer (d := 0) hr1 J.1 J.2.1 J.2.2.2.2.1.1 J.2.2.1.2.2.2.2 J.2.2.2.2.2.2.2.2.1 J.2.2.2.2.2.2.2.2.2.1 _ _ (fun p2 k2 o2 h2 g1 g2 g3 g4 g5 g6 A R rp => ?_) (fun h2 g R rp => ?_)
    · have c46 := J.2.1.1
      obtain rfl := nj (by omega) (by omega) e1 g1
      obtain rfl := nj (by omega) (by omega) e3 g3
      obtain rfl := e6.trans g6.symm
      refine gG_t (lEq (gDec okL_law tL_law_944) rfl (hq h2 (LIV.mk D y6 rp R tg1 (J_answer J e6 G A) ko1 no1)))
    · exact absurd e5 (fun w => g p k e1 e2 e3 e4 w)
  · refine gG_t ?_
    have hr1 := hr
    refine gG_aload_nR (k := 2) (gDec okL_law tL_law_928) rfl ?_
    refine sc_I (k := 1) hz (gDec okL_law tL_law_929) (gDec okL_law tL_law_930) (gDec okL_law tL_law_932) (gDec okL_law tL_law_933) eL_law_934 rfl rfl rfl (by omega) ?_
    refine sc_I (k := 2) hz (gDec okL_law tL_law_935) (gDec okL_law tL_law_936) (gDec okL_law tL_law_938) (gDec okL_law tL_law_939) eL_law_940 rfl rfl rfl (by omega) ?_
    refine gG_wd (c' := 0 + c) (n' := 0 + n) (by omega) (by omega) ?_
    refine gG_callV (f := mX9_answer) (ci := 10) (okMb_V (gMs_at (r := 168) (by decide)) (by decide)) (gDec okL_law tL_law_941) (gMem (i := 1475) rfl rfl) rfl (by decide) rfl (c1 := 0) (n1 := 0) (c := c) (n := n) (As := [.int (xs (i + 1)), .int (xs (i + 2))]) (rest := [.int (-nI 1)]) (d1 := 0 + 7) (d := 2048) hr1.1.1 rfl (by simp [Value.category]) (by omega) ?_
    refine r_answer (d := 0) hr1 J.1 J.2.1 J.2.2.2.2.1.1 J.2.2.1.2.2.2.2 J.2.2.2.2.2.2.2.2.1 J.2.2.2.2.2.2.2.2.2.1 _ _ (fun p2 k2 o2 h2 g1 g2 g3 g4 g5 g6 A R rp => ?_) (fun h2 g R rp => ?_)
    · exact absurd g5 (fun w => e p2 k2 g1 g2 g3 g4 w)
    · refine gG_t (lEq (gDec okL_law tL_law_944) rfl (hq h2 (LIV.mk hd rfl rp R tg J ko no)))
set_option maxRecDepth 100000 in
set_option maxHeartbeats 1600000 in
theorem lc_19 (hX : gXt B E mi) (hz : gXz B b L xs) (hi : i + 6 < L) (I : LIV E u x xa o h) (hq : ∀ h', LIV E u x xa o h' → gG B mL_law 2048 c n 1116 (lvL b u x o i) [] h' Q) : gG B mL_law 2048 (0 + c) (0 + n) 949 (lvL b u x o i) [] h Q := by
  obtain ⟨Y, ow, v, rl, s, a, hd, hu, hr, tg, J, ko, no⟩ := I
  subst hu
  refine gG_aload_nR (k := 1) (gDec okL_law tL_law_949) rfl ?_
  refine sc_I (k := 1) hz (gDec okL_law tL_law_950) (gDec okL_law tL_law_951) (gDec okL_law tL_law_953) (gDec okL_law tL_law_954) eL_law_955 rfl rfl rfl (by omega) ?_
  refine sc_I (k := 2) hz (gDec okL_law tL_law_956) (gDec okL_law tL_law_957) (gDec okL_law tL_law_959) (gDec okL_law tL_law_960) eL_law_961 rfl rfl rfl (by omega) ?_
  refine gG_callV (f := mX8_given) (ci := 9) (okMb_V (gMs_at (r := 79) (by decide)) (by decide)) (gDec okL_law tL_law_962) (gMem (i := 920) rfl rfl) rfl (by decide) rfl (c1 := 0) (n1 := 0) (c := c) (n := n) (As := [.int (xs (i + 1)), .int (xs (i + 2))]) (rest := []) (d1 := 0 + 4) (d := 2048) hd.2.1.1 rfl (by simp [Value.category]) (by omega) ?_
  refine x_given (d := 0) hd J.1 J.2.2.1.2.2.2.2 (fun i hi => (J.1.2.2.2.1 _ (J.2.2.1.2.2.2.1 i hi).2).2.2.2.1) _ _ (fun p k e1 e2 e3 e4 => ?_) (fun e => ?_)
  · refine gG_t ?_
    have hr1 := hr
    refine gG_aload_nR (k := 2) (gDec okL_law tL_law_965) rfl ?_
    refine sc_I (k := 1) hz (gDec okL_law tL_law_966) (gDec okL_law tL_law_967) (gDec okL_law tL_law_969) (gDec okL_law tL_law_970) eL_law_971 rfl rfl rfl (by omega) ?_
    refine sc_I (k := 2) hz (gDec okL_law tL_law_972) (gDec okL_law tL_law_973) (gDec okL_law tL_law_975) (gDec okL_law tL_law_976) eL_law_977 rfl rfl rfl (by omega) ?_
    refine gG_wd (c' := 0 + c) (n' := 0 + n) (by omega) (by omega) ?_
    refine gG_callV (f := mX9_given) (ci := 10) (okMb_V (gMs_at (r := 169) (by decide)) (by decide)) (gDec okL_law tL_law_978) (gMem (i := 1495) rfl rfl) rfl (by decide) rfl (c1 := 0) (n1 := 0) (c := c) (n := n) (As := [.int (xs (i + 1)), .int (xs (i + 2))]) (rest := [.int (gvW a p k)]) (d1 := 0 + 1) (d := 2048) hr1.1.1 rfl (by simp [Value.category]) (by omega) ?_
    refine r_given (d := 0) hr1 J.2.2.1.2.2.2.2 (fun i hi => ⟨Nat.lt_of_lt_of_le (J.2.2.1.2.2.2.1 i hi).2 J.1.1.2.2.2.2.1, (J.1.2.2.2.1 _ (J.2.2.1.2.2.2.1 i hi).2).2.2.2.1⟩) _ _ (fun p2 k2 h2 g1 g2 g3 g4 R rp => ?_) (fun h2 g R rp => ?_)
    · have c57 := J.2.2.1.2.2.2.2
      obtain rfl := nj (by omega) (by omega) e1 g1
      obtain rfl := nj (by omega) (by omega) e3 g3
      refine gG_t (lEq (gDec okL_law tL_law_981) rfl (hq h2 (LIV.mk hd rfl rp R tg J ko no)))
    · rcases g with g | g
      · exact absurd e1 (g p e2)
      · exact absurd e3 (g k e4)
  · refine gG_t ?_
    have hr1 := hr
    refine gG_aload_nR (k := 2) (gDec okL_law tL_law_965) rfl ?_
    refine sc_I (k := 1) hz (gDec okL_law tL_law_966) (gDec okL_law tL_law_967) (gDec okL_law tL_law_969) (gDec okL_law tL_law_970) eL_law_971 rfl rfl rfl (by omega) ?_
    refine sc_I (k := 2) hz (gDec okL_law tL_law_972) (gDec okL_law tL_law_973) (gDec okL_law tL_law_975) (gDec okL_law tL_law_976) eL_law_977 rfl rfl rfl (by omega) ?_
    refine gG_wd (c' := 0 + c) (n' := 0 + n) (by omega) (by omega) ?_
    refine gG_callV (f := mX9_given) (ci := 10) (okMb_V (gMs_at (r := 169) (by decide)) (by decide)) (gDec okL_law tL_law_978) (gMem (i := 1495) rfl rfl) rfl (by decide) rfl (c1 := 0) (n1 := 0) (c := c) (n := n) (As := [.int (xs (i + 1)), .int (xs (i + 2))]) (rest := [.int (-nI 1)]) (d1 := 0 + 1) (d := 2048) hr1.1.1 rfl (by simp [Value.category]) (by omega) ?_
    refine r_given (d := 0) hr1 J.2.2.1.2.2.2.2 (fun i hi => ⟨Nat.lt_of_lt_of_le (J.2.2.1.2.2.2.1 i hi).2 J.1.1.2.2.2.2.1, (J.1.2.2.2.1 _ (J.2.2.1.2.2.2.1 i hi).2).2.2.2.1⟩) _ _ (fun p2 k2 h2 g1 g2 g3 g4 R rp => ?_) (fun h2 g R rp => ?_)
    · rcases e with e | e
      · exact absurd g1 (e p2 g2)
      · exact absurd g3 (e k2 g4)
    · refine gG_t (lEq (gDec okL_law tL_law_981) rfl (hq h2 (LIV.mk hd rfl rp R tg J ko no)))
set_option maxRecDepth 100000 in
set_option maxHeartbeats 1600000 in
theorem lc_21 (hX : gXt B E mi) (hz : gXz B b L xs) (hi : i + 6 < L) (I : LIV E u x xa o h) (hq : ∀ h', LIV E u x xa o h' → gG B mL_law 2048 c n 1116 (lvL b u x o i) [] h' Q) : gG B mL_law 2048 (0 + c) (0 + n) 1054 (lvL b u x o i) [] h Q := by
  obtain ⟨Y, ow, v, rl, s, a, hd, hu, hr, tg, J, ko, no⟩ := I
  subst hu
  refine gG_aload_nR (k := 1) (gDec okL_law tL_law_1054) rfl ?_
  refine sc_I (k := 1) hz (gDec okL_law tL_law_1055) (gDec okL_law tL_law_1056) (gDec okL_law tL_law_1058) (gDec okL_law tL_law_1059) eL_law_1060 rfl rfl rfl (by omega) ?_
  refine sc_I (k := 2) hz (gDec okL_law tL_law_1061) (gDec okL_law tL_law_1062) (gDec okL_law tL_law_1064) (gDec okL_law tL_law_1065) eL_law_1066 rfl rfl rfl (by omega) ?_
  refine gG_callV (f := mX8_read) (ci := 9) (okMb_V (gMs_at (r := 81) (by decide)) (by decide)) (gDec okL_law tL_law_1067) (gMem (i := 927) rfl rfl) rfl (by decide) rfl (c1 := 0) (n1 := 0) (c := c) (n := n) (As := [.int (xs (i + 1)), .int (xs (i + 2))]) (rest := []) (d1 := 0 + 5) (d := 2048) hd.2.1.1 rfl (by simp [Value.category]) (by omega) ?_
  refine x_read (d := 0) hd J.1 J.2.2.2.1 J.2.2.2.2.1.2.2 _ _ (fun p k h1 e1 e2 e3 e4 D f => ?_) (fun e => ?_)
  · refine gG_t ?_
    obtain ⟨hr1, ko1, no1, -⟩ := hr.f9 tg ko no (f.n9 (by simp [scT, ruS]))
    refine gG_aload_nR (k := 2) (gDec okL_law tL_law_1070) rfl ?_
    refine sc_I (k := 1) hz (gDec okL_law tL_law_1071) (gDec okL_law tL_law_1072) (gDec okL_law tL_law_1074) (gDec okL_law tL_law_1075) eL_law_1076 rfl rfl rfl (by omega) ?_
    refine sc_I (k := 2) hz (gDec okL_law tL_law_1077) (gDec okL_law tL_law_1078) (gDec okL_law tL_law_1080) (gDec okL_law tL_law_1081) eL_law_1082 rfl rfl rfl (by omega) ?_
    refine gG_wd (c' := 0 + c) (n' := 0 + n) (by omega) (by omega) ?_
    refine gG_callV (f := mX9_read) (ci := 10) (okMb_V (gMs_at (r := 150) (by decide)) (by decide)) (gDec okL_law tL_law_1083) (gMem (i := 1388) rfl rfl) rfl (by decide) rfl (c1 := 0) (n1 := 0) (c := c) (n := n) (As := [.int (xs (i + 1)), .int (xs (i + 2))]) (rest := [.int (rdW s a rl p k)]) (d1 := 0 + 5) (d := 2048) hr1.1.1 rfl (by simp [Value.category]) (by omega) ?_
    refine r_read (d := 0) hr1 J.1 J.2.2.2.2.1.1 _ _ (fun p2 k2 h2 g1 g2 g3 g4 R rp => ?_) (fun h2 g R rp => ?_)
    · have c31 := J.1.1.2.2.2.2.1
      obtain rfl := nj (by omega) (by omega) e1 g1
      obtain rfl := nj (by omega) (by omega) e3 g3
      refine gG_t (lEq (gDec okL_law tL_law_1086) rfl (hq h2 (LIV.mk D rfl rp R tg J ko1 no1)))
    · rcases g with g | g
      · exact absurd e1 (g p e2)
      · exact absurd e3 (g k e4)
  · refine gG_t ?_
    have hr1 := hr
    refine gG_aload_nR (k := 2) (gDec okL_law tL_law_1070) rfl ?_
    refine sc_I (k := 1) hz (gDec okL_law tL_law_1071) (gDec okL_law tL_law_1072) (gDec okL_law tL_law_1074) (gDec okL_law tL_law_1075) eL_law_1076 rfl rfl rfl (by omega) ?_
    refine sc_I (k := 2) hz (gDec okL_law tL_law_1077) (gDec okL_law tL_law_1078) (gDec okL_law tL_law_1080) (gDec okL_law tL_law_1081) eL_law_1082 rfl rfl rfl (by omega) ?_
    refine gG_wd (c' := 0 + c) (n' := 0 + n) (by omega) (by omega) ?_
    refine gG_callV (f := mX9_read) (ci := 10) (okMb_V (gMs_at (r := 150) (by decide)) (by decide)) (gDec okL_law tL_law_1083) (gMem (i := 1388) rfl rfl) rfl (by decide) rfl (c1 := 0) (n1 := 0) (c := c) (n := n) (As := [.int (xs (i + 1)), .int (xs (i + 2))]) (rest := [.int (-nI 1)]) (d1 := 0 + 5) (d := 2048) hr1.1.1 rfl (by simp [Value.category]) (by omega) ?_
    refine r_read (d := 0) hr1 J.1 J.2.2.2.2.1.1 _ _ (fun p2 k2 h2 g1 g2 g3 g4 R rp => ?_) (fun h2 g R rp => ?_)
    · rcases e with e | e
      · exact absurd g1 (e p2 g2)
      · exact absurd g3 (e k2 g4)
    · refine gG_t (lEq (gDec okL_law tL_law_1086) rfl (hq h2 (LIV.mk hd rfl rp R tg J ko no)))
set_option maxRecDepth 100000 in
set_option maxHeartbeats 1600000 in
theorem lc_22 (hX : gXt B E mi) (hz : gXz B b L xs) (hi : i + 6 < L) (I : LIV E u x xa o h) (hq : ∀ h', LIV E u x xa o h' → gG B mL_law 2048 c n 1116 (lvL b u x o i) [] h' Q) : gG B mL_law 2048 (0 + c) (0 + n) 1091 (lvL b u x o i) [] h Q := by
  obtain ⟨Y, ow, v, rl, s, a, hd, hu, hr, tg, J, ko, no⟩ := I
  subst hu
  refine gG_aload_nR (k := 1) (gDec okL_law tL_law_1091) rfl ?_
  refine sc_I (k := 1) hz (gDec okL_law tL_law_1092) (gDec okL_law tL_law_1093) (gDec okL_law tL_law_1095) (gDec okL_law tL_law_1096) eL_law_1097 rfl rfl rfl (by omega) ?_
  refine gG_callV (f := mX8_count) (ci := 9) (okMb_V (gMs_at (r := 82) (by decide)) (by decide)) (gDec okL_law tL_law_1098) (gMem (i := 933) rfl rfl) rfl (by decide) rfl (c1 := 0) (n1 := 0) (c := c) (n := n) (As := [.int (xs (i + 1))]) (rest := []) (d1 := 0 + 5) (d := 2048) hd.2.1.1 rfl (by simp [Value.category]) (by omega) ?_
  refine x_count (d := 0) hd J.1 J.2.2.2.2.1.1.2.1 _ (fun k e1 e2 => ?_) (fun e => ?_)
  · refine gG_t ?_
    have hr1 := hr
    refine gG_aload_nR (k := 2) (gDec okL_law tL_law_1101) rfl ?_
    refine sc_I (k := 1) hz (gDec okL_law tL_law_1102) (gDec okL_law tL_law_1103) (gDec okL_law tL_law_1105) (gDec okL_law tL_law_1106) eL_law_1107 rfl rfl rfl (by omega) ?_
    refine gG_wd (c' := 0 + c) (n' := 0 + n) (by omega) (by omega) ?_
    refine gG_callV (f := mX9_count) (ci := 10) (okMb_V (gMs_at (r := 173) (by decide)) (by decide)) (gDec okL_law tL_law_1108) (gMem (i := 1511) rfl rfl) rfl (by decide) rfl (c1 := 0) (n1 := 0) (c := c) (n := n) (As := [.int (xs (i + 1))]) (rest := [.int (ctW s a k)]) (d1 := 0 + 1) (d := 2048) hr1.1.1 rfl (by simp [Value.category]) (by omega) ?_
    refine r_count (d := 0) hr1 J.1 J.2.2.2.2.1.1.1 _ (fun k2 h2 g1 g2 R rp => ?_) (fun h2 g R rp => ?_)
    · obtain rfl := nj (by omega) (by omega) e1 g1
      refine gG_t (lEq (gDec okL_law tL_law_1111) rfl (hq h2 (LIV.mk hd rfl rp R tg J ko no)))
    · exact absurd e1 (g k e2)
  · refine gG_t ?_
    have hr1 := hr
    refine gG_aload_nR (k := 2) (gDec okL_law tL_law_1101) rfl ?_
    refine sc_I (k := 1) hz (gDec okL_law tL_law_1102) (gDec okL_law tL_law_1103) (gDec okL_law tL_law_1105) (gDec okL_law tL_law_1106) eL_law_1107 rfl rfl rfl (by omega) ?_
    refine gG_wd (c' := 0 + c) (n' := 0 + n) (by omega) (by omega) ?_
    refine gG_callV (f := mX9_count) (ci := 10) (okMb_V (gMs_at (r := 173) (by decide)) (by decide)) (gDec okL_law tL_law_1108) (gMem (i := 1511) rfl rfl) rfl (by decide) rfl (c1 := 0) (n1 := 0) (c := c) (n := n) (As := [.int (xs (i + 1))]) (rest := [.int (-nI 1)]) (d1 := 0 + 1) (d := 2048) hr1.1.1 rfl (by simp [Value.category]) (by omega) ?_
    refine r_count (d := 0) hr1 J.1 J.2.2.2.2.1.1.1 _ (fun k2 h2 g1 g2 R rp => ?_) (fun h2 g R rp => ?_)
    · exact absurd g1 (e k2 g2)
    · refine gG_t (lEq (gDec okL_law tL_law_1111) rfl (hq h2 (LIV.mk hd rfl rp R tg J ko no)))
end LAWF
