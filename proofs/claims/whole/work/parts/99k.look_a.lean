/-! LOOK, where it throws: the words, the externals, the contract -/
def nseN : String := "java/util/NoSuchElementException"
def nseUp : List String := ["java/lang/RuntimeException", "java/lang/Exception"]
def nseB : ByteArray := ⟨#[0x2a, 0x2b, 0xb7, 0x00, 0x0d, 0xb1]⟩
def nseW : List Cond := [.castable nseN nseN, .declares (Bundle.initS "java/lang/RuntimeException"), .declares (Bundle.initS "java/lang/Exception"), .declares (Bundle.initS "java/lang/Throwable")]
def gY20 (A : Nat → Prop) (U : State) (H : Heap) : Prop := vx_Zq Bundle.tN "UNASSIGNED_STACK" Bundle.steD A U H ∧ vx_Zq Bundle.tN "SUPPRESSED_SENTINEL" Bundle.listD A U H ∧ (∃ a : Nat, vk_R "PapersDesk" 225 "no such ask" a U) ∧ (∃ a : Nat, vk_R "PapersDesk" 243 "nothing such is told of an ask" a U) ∧ va_Nw (.castable nseN nseN) U ∧ va_Nw (.declares (Bundle.initS "java/lang/RuntimeException")) U ∧ va_Nw (.declares (Bundle.initS "java/lang/Exception")) U ∧ va_Nw (.declares (Bundle.initS "java/lang/Throwable")) U
def gXx (B : gB) : Prop := B.1.stackTraces = false ∧ ∀ (U : State) (H : Heap), B.2.2.2.2 U H → gY20 (gA B) U H
set_option maxRecDepth 100000 in
theorem nse_at : (vz_at "PapersDesk" 227 nseN 13 nseB nseUp).all (fun w => (decide (w ∈ lw_tbl) && goodWord w) || decide (w ∈ nseW)) = true := by decide +kernel
set_option maxRecDepth 100000 in
theorem nse_ot : (Cond.classLink "PapersDesk" 223 nseN :: Cond.initialized nseN :: vz_at "PapersDesk" 227 nseN 13 nseB nseUp).all vx_ot = true := by decide +kernel
def lkH : List (Nat × Nat × Nat × Nat) := [(0, 10, 13, 13)]
def lkWs : List Cond := Cond.codeWith (gY mL_look) (gCd mL_look) 5 (some .int) lkH :: lw_good
def nseK : List Cond := [Cond.classLink "PapersDesk" 223 nseN, Cond.initialized nseN, Cond.classLink "PapersDeskLaw" 13 nseN, Cond.codeWith (gY mL_look) (gCd mL_look) 5 (some .int) lkH, Cond.static (gY mL_look), Cond.initialized "PapersDeskLaw", Cond.methodLink "PapersDeskLaw" 110 (gY mL_look), Cond.methodLink "PapersDesk" 163 (gY mX8_askAt), Cond.methodLink "PapersDeskLaw" 7 (gY mX8_look)]
set_option maxRecDepth 100000 in
theorem nse_k : ∀ w ∈ nseK, w ∈ lw_good := gMemW (by decide +kernel)
theorem gRel_grow {B : gB} {h : gHp} {H H1 : Heap} (R : gRel B h H) (hz : H.size ≤ H1.size) (hq : ∀ q : Nat, q < H.size → H1[q]? = H[q]?) : gRel B h H1 := by
  obtain ⟨L, h1, hP, hD, hb⟩ := R
  exact ⟨L, h1, hP.kept (fun k q hk => hq q.1 (vx_lt hP hk)), hD, Nat.le_trans hb hz⟩
def gXq (B : gB) (XQ : gHp → Prop) : String → State → State → Prop := fun E st t => E = nseN ∧ (∃ h, XQ h ∧ gRel B h t.heap) ∧ va_F (gA B) st t
section LKA
variable {B : gB} {p : Program} {e : Env} {s : State} {mi : MethodId} {args : Array Value} {below : List Frame} {meth : Method} {cd : Code} {H : Heap} {locs : List Loc} {cells slots : Nat} {ls : Array Slot} {h : gHp} {XQ : gHp → Prop}
/-- a throw of look -/
theorem gW_throw {d c n pc is sa : Nat} {text : String} {lv : List (Nat × Value)} {Qc : Array Value → State → Outcome → State → Prop} (hX : gXx B) (C : gC B kX8_look p s mi args meth cd) (ht : ∀ x ∈ cd.exceptionTable.toList, False) (R : gRel B h H) (S : va_S (gA B) s.heap H locs) (hl : lv_has ls (gL kX8_look) lv) (hstr : vk_R "PapersDesk" is text sa s)
    (d0 : decode (gCd kX8_look) pc = .ok (.new 223, 3)) (d3 : decode (gCd kX8_look) (pc + 3) = .ok (.dup, 1)) (d4 : decode (gCd kX8_look) (pc + 4) = .ok (.ldc is, 2)) (d6 : decode (gCd kX8_look) (pc + 6) = .ok (.invokespecial 227, 3)) (d9 : decode (gCd kX8_look) (pc + 9) = .ok (.athrow, 1)) (hd : 6 ≤ d) (hQ : XQ h) :
    W p B.1 e (gRm d (cells + (c + 1)) (slots + (n + 6))) s mi args below meth cd H locs cells slots (vx_MQ below Qc (gXq B XQ) args s (cells + (c + 1)) (slots + (n + 6)) (gA B)) (F0 mi pc ls []) := by
  obtain ⟨hx, hcode, hml, hr, hlo, hown, hnm, hts, ⟨hKK, hEE⟩, hbs, hEx⟩ := id C
  obtain ⟨hU, hN, -, -, q1, q2, q3, q4⟩ := hX.2 s s.heap hEE
  refine vz_throw (own := "PapersDesk") (names := nseUp) (ix := 13) (rx := nseB) (cls := nseN) hx hcode hX.1 (by decide +kernel) (by decide +kernel) (by decide +kernel) (by decide +kernel) hown (by decide +kernel) (by decide +kernel) (hts _ (nse_k _ (by simp [nseK]))) (hts _ (nse_k _ (by simp [nseK]))) hstr (fun w hw => ?_) (List.all_eq_true.mp nse_ot) hU hN S (hl.1.trans hml.symm) d0 d3 d4 d6 d9 (fun x hx => (ht x hx).elim) (by simp only [gRm, nseUp, List.length_cons, List.length_nil]; omega) (by simp only [gRm, nseUp, List.map_nil, List.sum_nil, List.length_cons, List.length_nil]; omega) (by simp only [gRm]; omega) (by simp only [gRm]; omega) hlo (fun t hal hz hq => ⟨rfl, ⟨h, hQ, gRel_grow R hz hq⟩, Nat.le_trans S.1 hz, fun q h1 h2 => ?_⟩) S.2.2 (by omega) (by omega)
  · have hw2 := List.all_eq_true.mp nse_at w hw
    simp only [Bool.or_eq_true, Bool.and_eq_true, decide_eq_true_eq] at hw2
    rcases hw2 with hw2 | hw2
    · exact hts w (List.mem_filter.mpr hw2)
    · simp only [nseW, List.mem_cons, List.not_mem_nil, or_false] at hw2
      rcases hw2 with rfl | rfl | rfl | rfl
      · exact va_Nw.use rfl q1
      · exact va_Nw.use rfl q2
      · exact va_Nw.use rfl q3
      · exact va_Nw.use rfl q4
  · rw [hq q (Nat.lt_of_lt_of_le h1 S.1)]
    exact S.2.1 q h1 h2
theorem gW_callV {m f : gM} {d d1 c n c1 n1 pc idx b ci : Nat} {q : vw_C} {As rest : List Value} {Q1 : Option Value → gHp → Prop} {Qw : State → Prop} (C : gC B m p s mi args meth cd) (R : gRel B h H) (S : va_S (gA B) s.heap H locs) (hsz : ls.size = gL m) (hf : gVok f) (hdg : decode (gCd m) pc = .ok (.invokevirtual idx, 3)) (hlk : Cond.methodLink (gY m).cls idx (gY f) ∈ lw_good) (hcl : vwCl[ci]? = some q) (hc : ci < 11) (hq : q.1 = (gY f).cls) (hb : hK h b = ci + 1) (hn : As.length = (gIx f).2.1) (hr : (rest.map fun v => v.category).sum ≤ 8) (hd : d1 + 1 ≤ d)
    (hFn : gFn B f d1 c1 n1 (.ref b :: As) h Q1)
    (kk : ∀ (v : Option Value) (h' : gHp) (H1 : Heap) (locs1 : List Loc), Q1 v h' → gRel B h' H1 → va_S (gA B) s.heap H1 locs1 → W p B.1 e (gRm d (cells + (c1 + c)) (slots + (n1 + n))) s mi args below meth cd H1 locs1 (cells + c1) (slots + n1) Qw (F0 mi (pc + 3) ls (v.toList ++ rest))) :
    W p B.1 e (gRm d (cells + (c1 + c)) (slots + (n1 + n))) s mi args below meth cd H locs cells slots Qw (F0 mi pc ls (As.reverse ++ .ref b :: rest)) := by
  obtain ⟨L, hL, hP, hD, hbz⟩ := id R
  obtain ⟨hx, hcode, hml, hrr, hlo, hown, hnm, hts, ⟨hKK, hEE⟩, hbs, hEx⟩ := id C
  have haL : b ∈ L := (hL b).mpr (by omega)
  obtain ⟨q0, hq0⟩ := gRel_at (f := gCell B.2.2.1 h) haL
  rw [gCell_o hb hc] at hq0
  obtain ⟨⟨w1, w2, w3, w4, w5, w6, w7, w8⟩, w9, w10⟩ := hf
  have hrv := va_recv hKK hP hcl hq0
  rw [hq] at hrv
  refine gW_call (va_runV (As := As) (rest := rest) ⟨hx, hcode, hml, hown, hts⟩ (hFn hEx) (cwV (C := (gY f).cls) (bytes := gCd f) (maxL := gL f) (ret := gRt f) _ hts (gGoodSub (fun w hw => ?_)) rfl rfl rfl ⟨rfl, w3, w4, w5⟩ ⟨hd, by simp only [gRm]; omega⟩) ⟨gBlind hEx, hrv, fun U hU hW => ⟨rfl, by rw [hU]; exact R, by rw [hU]; exact gC_ex C S hW⟩⟩ rfl hn hsz rfl (lv_room hr) hdg ⟨by simp only [gRm]; omega, by simp only [gRm]; omega⟩) S kk
  simp only [wsV, List.mem_append, List.mem_cons, List.not_mem_nil, or_false] at hw
  rcases hw with (rfl | rfl | rfl | rfl) | hw
  · exact hlk
  · exact w9
  · exact w10
  · exact w2
  · exact gGoodWs w1 w hw
end LKA
section LKB
variable {B : gB} {h : gHp} {d E v : Nat} {Y : gYm} {ow : Nat → gTag} {rl : List (Nat × List (Nat × Nat))} {s : Nat → Nat} {a : Nat → Nat → Nat} {XQ : gHp → Prop}
set_option maxRecDepth 100000 in
set_option maxHeartbeats 1600000 in
theorem x_lookX (hX : gXx B) (hd : DS E Y ow v rl h s a) (wp : WP s a) (b w : Int32) (hbad : (∀ i, i < s 46 → ¬ b = nI i) ∨ (∀ k, k < 8 → ¬ w = nI k)) (hQ : XQ h) (hEx : gEx B) :
    vx_Met B.1 (gY mX8_look) (gWs mX8_look) (gRm (d + 8) 1 6) (va_Pc [.ref (Y 0 0 0), .int b, .int w] (fun U => gRel B h U.heap ∧ gU B U U.heap)) (gQ B (fun _ _ => False)) (gXq B XQ) 1 6 (gA B) := by
  refine vx_ofW (cc := gCd kX8_look) (maxL := gL kX8_look) (ret := gRt kX8_look) pnX8_look rfl ?_
  intro p e st mi as below meth cd s₁ Bd hml ht hv
  obtain ⟨rfl, hR, hU⟩ := hv
  have hts := atoms_spec (ws := gWs kX8_look) Bd.pre
  rw [lg_entry_eq]
  have hb : B.2.2.2.1 ≤ st.heap.size := by
    obtain ⟨L, h1, h2, h3, h4⟩ := id hR
    exact h4
  have C : gC B kX8_look p st mi [Value.ref (Y 0 0 0), .int b, .int w].toArray meth cd := ⟨Bd.exec, Bd.bytes, hml, Bd.returns, Bd.notSynchronized, findClass_of_methodNamed Bd.named, Or.inr (name_of_methodNamed Bd.named Bd.method).1, fun w hw => hts w (List.mem_cons_of_mem _ hw), hU, hb, hEx⟩
  have hl := lv_entry [Value.ref (Y 0 0 0), .int b, .int w] (n := gL kX8_look) (Nat.le_of_ble_eq_true rfl)
  obtain ⟨-, -, ⟨t1, hs1⟩, ⟨t2, hs2⟩, -⟩ := hX.2 st st.heap hU.2
  have c0 : hK h (Y 0 0 0) = 9 + 1 := hd.2.1.1
  revert hl
  generalize ((lg_sl [Value.ref (Y 0 0 0), .int b, .int w] ++ List.replicate (gL kX8_look - (lg_sl [Value.ref (Y 0 0 0), .int b, .int w]).length) Slot.unset).toArray) = ls
  intro hl
  show W p B.1 e (gRm (d + 8) (0 + (0 + 1)) (0 + (0 + 6))) st mi _ below meth cd st.heap [] 0 0 (vx_MQ below _ (gXq B XQ) _ st (0 + (0 + 1)) (0 + (0 + 6)) (gA B)) (F0 mi 0 ls [])
  refine lv_aload_n C.1 C.2.1 (gDec okX8_look tX8_look_0) rfl (lvGet_at hl rfl) ?_
  refine lv_iload_n C.1 C.2.1 (gDec okX8_look tX8_look_1) rfl (lvGet_at hl rfl) ?_
  refine gW_callV (f := mX8_askAt) (ci := 9) (c1 := 0) (n1 := 0) (c := 0 + 1) (n := 0 + 6) (d1 := d + 4) (d := d + 8) (As := [.int b]) (rest := []) C hR va_S.rf hl.1 (okMb_V (gMs_at (r := 88) (by decide)) (by decide)) (gDec okX8_look tX8_look_2) (nse_k (Cond.methodLink "PapersDesk" 163 (gY mX8_askAt)) (by simp [nseK])) rfl (by decide) rfl c0 rfl (by simp) (by omega) (x_askAt (d := d) hd wp b (Q := fun r h' => (h' = h) ∧ ((r = some .null) ∨ ((∀ k, k < 8 → ¬ w = nI k) ∧ ∃ j, r = some (.ref (Y 5 j 0))))) (fun j e hj => ⟨rfl, Or.inr ⟨?_, j, rfl⟩⟩) (fun _ => ⟨rfl, Or.inl rfl⟩)) ?_
  · rcases hbad with hb | hb
    · exact absurd e (hb j hj)
    · exact hb
  · intro r h' H1 locs1 hr R1 S1
    obtain ⟨rfl, hr⟩ := hr
    rcases hr with rfl | ⟨hw, j, rfl⟩
    · refine lv_astore_nN C.1 C.2.1 (gDec okX8_look tX8_look_5) rfl hl (by decide) rfl (fun ls hl => ?_)
      refine lv_aload_nN C.1 C.2.1 (gDec okX8_look tX8_look_6) rfl (lvGet_at hl rfl) ?_
      refine lv_ifnonnullN C.1 C.2.1 (gDec okX8_look tX8_look_7) ?_
      exact gW_throw (c := 0) (n := 0) hX C ht R1 S1 hl hs1 eX8_look_10 (gDec okX8_look tX8_look_13) (gDec okX8_look tX8_look_14) (gDec okX8_look tX8_look_16) (gDec okX8_look tX8_look_19) (by omega) hQ
    · refine lv_astore_n C.1 C.2.1 (gDec okX8_look tX8_look_5) rfl hl (by decide) rfl (fun ls hl => ?_)
      refine lv_aload_n C.1 C.2.1 (gDec okX8_look tX8_look_6) rfl (lvGet_at hl rfl) ?_
      refine lv_ifnonnull (tgt := 20) C.1 C.2.1 (gDec okX8_look tX8_look_7) rfl ?_
      refine lv_iload_n C.1 C.2.1 (gDec okX8_look tX8_look_20) rfl (lvGet_at hl rfl) ?_
      refine lv_tableOut (tgt := 141) C.1 C.2.1 (gDec okX8_look tX8_look_21) ?_ rfl ?_
      · rcases i_cases w with q | ⟨k, hk, rfl⟩
        · exact Or.inl (neg_toInt q)
        · refine Or.inr ?_
          rw [nI_toInt hk]
          have : ¬ k < 8 := fun q => hw k q rfl
          omega
      · exact gW_throw (c := 0) (n := 0) hX C ht R1 S1 hl hs2 eX8_look_141 (gDec okX8_look tX8_look_144) (gDec okX8_look tX8_look_145) (gDec okX8_look tX8_look_147) (gDec okX8_look tX8_look_150) (by omega) hQ
end LKB
