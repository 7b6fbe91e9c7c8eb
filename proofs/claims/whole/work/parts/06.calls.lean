/-! CALLS in gG -/
theorem gGoodSub {ws : List Cond} (h : ∀ w ∈ ws, w ∈ lw_good) : GoodIn lw_good ws := fun w hw => gGoodIn w (h w hw)
/-- what the tables say of a method that is called -/
def gMok (f : gM) (k : Nat) : Prop := Cond.code (gY f) (gCd f) (gL f) (gRt f) ∈ lw_good ∧ Cond.initialized (gY f).cls ∈ lw_good ∧ (gY f).cls ≠ "java/lang/invoke/MethodHandle" ∧ (gY f).cls ≠ "java/lang/invoke/VarHandle" ∧ (parseMethodDescriptor (gY f).desc).map (fun d => d.parameters.length) = some (gIx f).2.1 ∧ gL f ≤ 21 ∧ (gIx f).1 = k ∧ plainName (gY f).cls = true
def gVok (f : gM) : Prop := gMok f 0 ∧ Cond.instanceMethod (gY f) ∈ lw_good ∧ Cond.selects (gY f).cls (gY f) (gY f) ∈ lw_good
def gSok (f : gM) : Prop := gMok f 1 ∧ Cond.static (gY f) ∈ lw_good
def gIok (f : gM) : Prop := gMok f 2 ∧ Cond.instanceMethod (gY f) ∈ lw_good ∧ (gY f).name = "<init>" ∧ gRt f = none
theorem gGoodWs {f : gM} (h : Cond.code (gY f) (gCd f) (gL f) (gRt f) ∈ lw_good) : ∀ w ∈ gWs f, w ∈ lw_good := fun w hw => (List.mem_cons.mp hw).elim (fun e => e ▸ h) id
theorem gBlind {B : gB} {h : gHp} {args : List Value} (hEx : gEx B) : FrameBlind (va_Pc args (fun U => gRel B h U.heap ∧ gU B U U.heap)) := fun a U g mk q => by
  obtain ⟨q0, q1, q2, q3⟩ := q
  exact ⟨q0, q1, va_K.moved (u := U) (U := U.calling g mk a) (Vm.Alike.refl U.vm) q2, hEx U (U.calling g mk a) U.heap U.heap (Or.inl rfl) (fun _ _ => rfl) q3⟩
theorem gW_call {B : gB} {p : Program} {e : Env} {R : Room} {s : State} {mi : MethodId} {args : Array Value} {below : List Frame} {meth : Method} {cd : Code} {H : Heap} {locs : List Loc} {cells slots mc ms pc : Nat} {ls : Array Slot} {st0 rest : List Value} {Q1 : Option Value → gHp → Prop} {Qw : State → Prop} {a : Array Value}
    (hr : va_Run p B.1 e R s mi args below meth cd H locs cells slots mc ms (F0 mi pc ls st0) rest (gQ B Q1 a) (gA B)) (S : va_S (gA B) s.heap H locs)
    (kk : ∀ (v : Option Value) (h' : gHp) (H1 : Heap) (locs1 : List Loc), Q1 v h' → gRel B h' H1 → va_S (gA B) s.heap H1 locs1 → W p B.1 e R s mi args below meth cd H1 locs1 (cells + mc) (slots + ms) Qw (F0 mi (pc + 3) ls (v.toList ++ rest))) : W p B.1 e R s mi args below meth cd H locs cells slots Qw (F0 mi pc ls st0) := by
  intro T hT X
  obtain ⟨v, st₀, t, T', L, h0, X', hL, e1, e2, ⟨⟨v', h', hv, hq, hR⟩, hz, hk⟩, st⟩ := hr T hT X
  cases hv
  rw [h0] at hz hk
  have S1 : va_S (gA B) s.heap T'.heap (locs ++ L) := ⟨Nat.le_trans S.1 (by rw [e1]; exact hz), fun q h1 h2 => by rw [e1, hk q (Nat.lt_of_lt_of_le h1 S.1) h2]; exact S.2.1 q h1 h2, fun q hq => by
      rcases List.mem_append.mp hq with h | h
      · exact S.2.2 q h
      · exact hL q h⟩
  obtain ⟨t2, a1, b1⟩ := kk v h' T'.heap (locs ++ L) hq (by rw [e1]; exact hR) S1 T' rfl X'
  exact ⟨t2, st t2 a1, b1⟩
section GCALL
variable {B : gB} {m f : gM} {d d1 c n c1 n1 pc idx b : Nat} {lv : List (Nat × Value)} {As rest : List Value} {h : gHp} {Q : Option Value → gHp → Prop}
theorem gG_callV {ci : Nat} {q : vw_C} (hf : gVok f) (hdg : decode (gCd m) pc = .ok (.invokevirtual idx, 3)) (hlk : Cond.methodLink (gY m).cls idx (gY f) ∈ lw_good) (hcl : vwCl[ci]? = some q) (hc : ci < 11) (hq : q.1 = (gY f).cls) (hb : hK h b = ci + 1) (hn : As.length = (gIx f).2.1) (hr : (rest.map fun v => v.category).sum ≤ 8) (hd : d1 + 1 ≤ d)
    (hFn : gFn B f d1 c1 n1 (.ref b :: As) h (fun v h' => gG B m d c n (pc + 3) lv (v.toList ++ rest) h' Q)) : gG B m d (c1 + c) (n1 + n) pc lv (As.reverse ++ .ref b :: rest) h Q := by
  intro p e s mi args below meth cd H locs cells slots ls C R S hl
  obtain ⟨L, hL, hP, hD, hbz⟩ := id R
  obtain ⟨hx, hcode, hml, hrr, hlo, hown, hnm, hts, ⟨hKK, hEE⟩, hbs, hEx⟩ := id C
  have haL : b ∈ L := (hL b).mpr (by omega)
  obtain ⟨q0, hq0⟩ := gRel_at (f := gCell B.2.2.1 h) haL
  rw [gCell_o hb hc] at hq0
  obtain ⟨⟨w1, w2, w3, w4, w5, w6, w7, w8⟩, w9, w10⟩ := hf
  have hrv := va_recv hKK hP hcl hq0
  rw [hq] at hrv
  refine gW_call (va_runV (As := As) (rest := rest) ⟨hx, hcode, hml, hown, hts⟩ (hFn hEx) (cwV (C := (gY f).cls) (bytes := gCd f) (maxL := gL f) (ret := gRt f) _ hts (gGoodSub (fun w hw => ?_)) rfl rfl rfl ⟨rfl, w3, w4, w5⟩ ⟨hd, by simp only [gRm]; omega⟩) ⟨gBlind hEx, hrv, fun U hU hW => ⟨rfl, by rw [hU]; exact R, by rw [hU]; exact gC_ex C S hW⟩⟩ rfl hn hl.1 rfl (lv_room hr) hdg ⟨by simp only [gRm]; omega, by simp only [gRm]; omega⟩) S ?_
  · simp only [wsV, List.mem_append, List.mem_cons, List.not_mem_nil, or_false] at hw
    rcases hw with (rfl | rfl | rfl | rfl) | hw
    · exact hlk
    · exact w9
    · exact w10
    · exact w2
    · exact gGoodWs w1 w hw
  · intro v h' H1 locs1 hG R1 S1
    have K := hG p e s mi args below meth cd H1 locs1 (cells + c1) (slots + n1) ls C R1 S1 hl
    rw [Nat.add_assoc, Nat.add_assoc] at K
    exact K
theorem gG_callI (hf : gIok f) (hdg : decode (gCd m) pc = .ok (.invokespecial idx, 3)) (hlk : Cond.methodLink (gY m).cls idx (gY f) ∈ lw_good) (hn : As.length = (gIx f).2.1) (hr : (rest.map fun v => v.category).sum ≤ 8) (hd : d1 + 1 ≤ d)
    (hFn : gFn B f d1 c1 n1 (.ref b :: As) h (fun v h' => gG B m d c n (pc + 3) lv (v.toList ++ rest) h' Q)) : gG B m d (c1 + c) (n1 + n) pc lv (As.reverse ++ .ref b :: rest) h Q := by
  intro p e s mi args below meth cd H locs cells slots ls C R S hl
  obtain ⟨hx, hcode, hml, hrr, hlo, hown, hnm, hts, ⟨hKK, hEE⟩, hbs, hEx⟩ := id C
  obtain ⟨⟨w1, w2, w3, w4, w5, w6, w7, w8⟩, w9, w10, w11⟩ := hf
  have hFn' := hFn hEx
  have hws : gWs f = Cond.code (gY f) (gCd f) (gL f) none :: lw_good := by unfold gWs; rw [w11]
  rw [w11] at w1
  refine gW_call (va_runI (As := As) (rest := rest) ⟨hx, hcode, hml, hown, hts⟩ hFn' (cwI (bytes := gCd f) (maxL := gL f) _ hts (gGoodSub (fun w hw => ?_)) hws rfl rfl (hts _ w2) (hts _ hlk) (hts _ w9) w10 ⟨w3, w4, w5⟩ ⟨hd, by simp only [gRm]; omega⟩) ⟨gBlind hEx, fun U hU hW => ⟨rfl, by rw [hU]; exact R, by rw [hU]; exact gC_ex C S hW⟩⟩ rfl hn hl.1 rfl (lv_room hr) hdg ⟨by simp only [gRm]; omega, by simp only [gRm]; omega⟩) S ?_
  · rw [hws] at hw
    rcases List.mem_cons.mp hw with e | e
    · rw [e]; exact w1
    · exact e
  · intro v h' H1 locs1 hG R1 S1
    have K := hG p e s mi args below meth cd H1 locs1 (cells + c1) (slots + n1) ls C R1 S1 hl
    rw [Nat.add_assoc, Nat.add_assoc] at K
    exact K
theorem gG_callS (hf : gSok f) (hdg : decode (gCd m) pc = .ok (.invokestatic idx, 3)) (hlk : Cond.methodLink (gY m).cls idx (gY f) ∈ lw_good) (hn : As.length = (gIx f).2.1) (hr : (rest.map fun v => v.category).sum ≤ 8) (hd : d1 + 1 ≤ d)
    (hFn : gFn B f d1 c1 n1 As h (fun v h' => gG B m d c n (pc + 3) lv (v.toList ++ rest) h' Q)) : gG B m d (c1 + c) (n1 + n) pc lv (As.reverse ++ rest) h Q := by
  intro p e s mi args below meth cd H locs cells slots ls C R S hl
  obtain ⟨hx, hcode, hml, hrr, hlo, hown, hnm, hts, ⟨hKK, hEE⟩, hbs, hEx⟩ := id C
  obtain ⟨⟨w1, w2, w3, w4, w5, w6, w7, w8⟩, w9⟩ := hf
  refine gW_call (va_runS (As := As) (rest := rest) (Ts := lw_good) (bytes := gCd f) (maxL := gL f) (ret := gRt f) ⟨hx, hcode, hml, hown, hts⟩ (hFn hEx) ⟨callB_of (Ts := lw_good) (ws' := lw_good) _ hts (gGoodSub (gGoodWs w1)) rfl rfl rfl (hts _ w2) (hts _ hlk) ⟨w3, w4, w5⟩ ⟨hd, by simp only [gRm]; omega⟩, hts _ w9⟩ ⟨gBlind hEx, fun U hU hW => ⟨rfl, by rw [hU]; exact R, by rw [hU]; exact gC_ex C S hW⟩⟩ rfl hn hl.1 rfl (lv_room hr) hdg ⟨by simp only [gRm]; omega, by simp only [gRm]; omega⟩) S ?_
  intro v h' H1 locs1 hG R1 S1
  have K := hG p e s mi args below meth cd H1 locs1 (cells + c1) (slots + n1) ls C R1 S1 hl
  rw [Nat.add_assoc, Nat.add_assoc] at K
  exact K
end GCALL
