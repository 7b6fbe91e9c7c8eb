/-! LOOK of the law: it catches -/
section LKC
variable {B : gB} {h : gHp} {Q : Option Value → gHp → Prop}
/-- the contract of a method with handlers -/
def gFh (B : gB) (d c n : Nat) (args : List Value) (h : gHp) (Q : Option Value → gHp → Prop) : Prop :=
  gEx B → Met B.1 (gY mL_look) lkWs (gRm d c n) (va_Pc args (fun U => gRel B h U.heap ∧ gU B U U.heap)) (gQ B Q) c n (gA B)
theorem gFh_of {d c n : Nat} {args : List Value} (hl : (lg_sl args).length ≤ gL mL_look)
    (body : ∀ (p : Program) (e : Env) (s : State) (mi : MethodId) (below : List Frame) (meth : Method) (cd : Code) (ls : Array Slot), gC B mL_look p s mi args.toArray meth cd → cd.exceptionTable.toList = tableOf lkH → gRel B h s.heap → lv_has ls (gL mL_look) (lv_args 0 args) → W p B.1 e (gRm d c n) s mi args.toArray below meth cd s.heap [] 0 0 (MQ below (gQ B Q) args.toArray s c n (gA B)) (F0 mi 0 ls [])) : gFh B d c n args h Q := by
  intro hEx
  refine va_MetW (cc := gCd mL_look) (maxL := gL mL_look) (ret := gRt mL_look) (hh := lkH) pnL_look rfl ?_
  intro p e s mi as below meth cd s₁ Bd hml hv
  obtain ⟨rfl, hR, hU⟩ := hv
  have hts := atoms_spec (ws := lkWs) Bd.pre
  rw [lg_entry_eq]
  have hb : B.2.2.2.1 ≤ s.heap.size := by
    obtain ⟨L, h1, h2, h3, h4⟩ := id hR
    exact h4
  exact body p e s mi below meth cd _ ⟨Bd.exec, Bd.bytes, hml, Bd.returns, Bd.notSynchronized, findClass_of_methodNamed Bd.named, Or.inr (name_of_methodNamed Bd.named Bd.method).1, fun w hw => hts w (List.mem_cons_of_mem _ hw), hU, hb, hEx⟩ (vx_table (x := gY mL_look) Bd (hts _ List.mem_cons_self)) hR (lv_entry args hl)
theorem gFh_gG {d c n : Nat} {args : List Value} (hl : (lg_sl args).length ≤ gL mL_look) (hG : gG B mL_look d c n 0 (lv_args 0 args) [] h Q) : gFh B d c n args h Q := gFh_of hl (fun p e s mi below meth cd ls C ht R hv => by
  have K := hG p e s mi args.toArray below meth cd s.heap [] 0 0 ls C R va_S.rf hv
  simp only [Nat.zero_add] at K
  exact K)
theorem gG_callH {m : gM} {d d1 c n c1 n1 pc : Nat} {lv : List (Nat × Value)} {As rest : List Value} (hm : (gY m).cls = "PapersDeskLaw") (hdg : decode (gCd m) pc = .ok (.invokestatic 110, 3)) (hn : As.length = 4) (hr : (rest.map fun v => v.category).sum ≤ 8) (hd : d1 + 1 ≤ d)
    (hFn : gFh B d1 c1 n1 As h (fun v h' => gG B m d c n (pc + 3) lv (v.toList ++ rest) h' Q)) : gG B m d (c1 + c) (n1 + n) pc lv (As.reverse ++ rest) h Q := by
  intro p e s mi args below meth cd H locs cells slots ls C R S hl
  obtain ⟨hx, hcode, hml, hrr, hlo, hown, hnm, hts, ⟨hKK, hEE⟩, hbs, hEx⟩ := id C
  refine gW_call (vx_runSW (As := As) (rest := rest) (Ts := lw_good) (hh := lkH) (bytes := gCd mL_look) (maxL := 5) (ret := some .int) ⟨hx, hcode, hml, hown, hts⟩ (hFn hEx) (vx_cwSW (Ts := lw_good) (ws' := lw_good) 4 hts (gGoodSub (fun w hw => ?_)) rfl rfl rfl ⟨by decide, by decide, by decide +kernel⟩ ⟨hd, by simp only [gRm]; omega⟩) ⟨gBlind hEx, fun U hU hW => ⟨rfl, by rw [hU]; exact R, by rw [hU]; exact gC_ex C S hW⟩⟩ rfl hn hl.1 rfl (lv_room hr) hdg ⟨by simp only [gRm]; omega, by simp only [gRm]; omega⟩) S ?_
  · simp only [va_wsS, lkWs, List.mem_append, List.mem_cons, List.not_mem_nil, or_false] at hw
    rw [hm] at hw
    rcases hw with (rfl | rfl | rfl) | rfl | hw
    · exact nse_k _ (by simp [nseK])
    · exact nse_k _ (by simp [nseK])
    · exact nse_k (Cond.initialized "PapersDeskLaw") (by simp [nseK])
    · exact nse_k _ (by simp [nseK])
    · exact hw
  · intro v h' H1 locs1 hG R1 S1
    have K := hG p e s mi args below meth cd H1 locs1 (cells + c1) (slots + n1) ls C R1 S1 hl
    rw [Nat.add_assoc, Nat.add_assoc] at K
    exact K
/-- on the road that throws -/
theorem lk_X {d u o : Nat} {b w : Int32} {XQ : gHp → Prop} (hX : gXx B) (c0 : hK h u = 9 + 1)
    (hM : gEx B → vx_Met B.1 (gY mX8_look) (gWs mX8_look) (gRm (d + 8) 1 6) (va_Pc [.ref u, .int b, .int w] (fun U => gRel B h U.heap ∧ gU B U U.heap)) (gQ B (fun _ _ => False)) (gXq B XQ) 1 6 (gA B)) (hQ : ∀ h', XQ h' → Q (some (.int (nI 1))) h') : gFh B (d + 9) 1 6 [.ref u, .int b, .int w, .ref o] h Q := by
  refine gFh_of (Nat.le_of_ble_eq_true rfl) (fun p e s mi below meth cd ls C ht R hl => ?_)
  obtain ⟨hx, hcode, hml, hrr, hlo, hown, hnm, hts, ⟨hKK, hEE⟩, hbs, hEx⟩ := id C
  obtain ⟨-, -, -, -, qc, -, -, -⟩ := hX.2 s s.heap hEE
  refine lv_aload_n hx hcode (gDec okL_look tL_look_0) rfl (lvGet_at hl rfl) ?_
  refine lv_iconst (v := nI 0) hx hcode (gDec okL_look tL_look_1) rfl ?_
  refine lv_aload_n hx hcode (gDec okL_look tL_look_2) rfl (lvGet_at hl rfl) ?_
  refine lv_iload_n hx hcode (gDec okL_look tL_look_3) rfl (lvGet_at hl rfl) ?_
  refine lv_iload_n hx hcode (gDec okL_look tL_look_4) rfl (lvGet_at hl rfl) ?_
  obtain ⟨L, hL, hP, hD, hbz⟩ := id R
  have haL : u ∈ L := (hL u).mpr (by omega)
  obtain ⟨q0, hq0⟩ := gRel_at (f := gCell B.2.2.1 h) haL
  rw [gCell_o c0 (by decide)] at hq0
  have hV : gVok mX8_look := okMb_V (gMs_at (r := 80) (by decide)) (by decide)
  obtain ⟨⟨w1, w2, w3, w4, w5, w6, w7, w8⟩, w9, w10⟩ := hV
  have hrv := va_recv hKK hP (show vwCl[9]? = some (RX8, TX8, 14) from rfl) hq0
  have hr : vx_Run p B.1 e (gRm (d + 9) 1 6) s mi _ below meth cd s.heap [] 0 0 1 6 (F0 mi 5 ls [.int w, .int b, .ref u, .int (nI 0), .ref o]) [.int (nI 0), .ref o] (gQ B (fun _ _ => False) _) (gXq B XQ) (gA B) := vx_runV (As := [.int b, .int w]) (rest := [.int (nI 0), .ref o]) (C := (gY mX8_look).cls) ⟨hx, hcode, hml, hown, hts⟩ (hM hEx) (cwV (C := (gY mX8_look).cls) (bytes := gCd mX8_look) (maxL := gL mX8_look) (ret := gRt mX8_look) 2 hts (gGoodSub (fun w hw => by
      simp only [wsV, List.mem_append, List.mem_cons, List.not_mem_nil, or_false] at hw
      rcases hw with (rfl | rfl | rfl | rfl) | hw
      · exact nse_k (Cond.methodLink "PapersDeskLaw" 7 (gY mX8_look)) (by simp [nseK])
      · exact w9
      · exact w10
      · exact w2
      · exact gGoodWs w1 w hw)) rfl rfl rfl ⟨rfl, w3, w4, w5⟩ ⟨Nat.le_refl _, by simp only [gRm]; omega⟩) ⟨gBlind hEx, hrv, fun U hU hW => ⟨rfl, by rw [hU]; exact R, by rw [hU]; exact gC_ex C va_S.rf hW⟩⟩ rfl rfl hl.1 rfl (lv_room (by simp [Value.category])) (gDec okL_look tL_look_5) ⟨by simp [gRm], by simp [gRm]⟩
  intro T hT X
  rcases hr T hT X with ⟨v, st₀, t, T', Lo, h0, X', hLo, e1, e2, ⟨⟨v', h', -, hf, -⟩, -⟩, st⟩ | ⟨q, st₀, t, T', Lo, E, ce, h0, X', hLo, e1, e2, ⟨rfl, ⟨h', hq, hR⟩, hz, hk⟩, hce, hcv, hcl, st⟩
  · exact hf.elim
  · rw [h0] at hz hk
    have S1 : va_S (gA B) s.heap T'.heap ([] ++ Lo) := ⟨by rw [e1]; exact hz, fun q h1 h2 => by rw [e1]; exact hk q h1 h2, fun q hq => hLo q (by simpa using hq)⟩
    have K2 : gG B mL_look (d + 9) 0 0 13 (lv_args 0 [.ref u, .int b, .int w, .ref o]) [.ref q] h' Q := gG_astoreR (gDec okL_look tL_look_13) (by decide) (gG_iconst (v := nI 1) (gDec okL_look tL_look_15) rfl (gG_iret (ty := .int) (gDec okL_look tL_look_16) rfl (by decide) (hQ h' hq)))
    have K3 := K2 p e s mi _ below meth cd T'.heap ([] ++ Lo) (0 + 1) (0 + 6) ls C (by rw [e1]; exact hR) S1 hl
    have K : vx_W p B.1 e (gRm (d + 9) 1 6) s mi _ below meth cd T'.heap ([] ++ Lo) (0 + 1) (0 + 6) (MQ below (gQ B Q) _ s 1 6 (gA B)) (F0 mi 5 ls [.int (nI 0), .ref o]) q := vx_catch (own := "PapersDeskLaw") (name := nseN) (E := nseN) (ce := ce) hown [] ⟨0, 10, 13, 13⟩ [] (by rw [ht]; rfl) (fun z hz => nomatch hz) (by decide) (by decide) (hts _ (nse_k _ (by simp [nseK]))) (va_Nw.use rfl qc) (by rw [e1]; exact hce) hcv hcl K3
    obtain ⟨t2, a1, b1⟩ := K T' rfl X'
    exact ⟨t2, st.trans a1, b1⟩
end LKC
