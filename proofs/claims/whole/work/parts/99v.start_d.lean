/-! THE START: the externals hold, put together -/
def stX : List Cond := [Cond.laysStatic Bundle.tN "UNASSIGNED_STACK" Bundle.steD, Cond.laysStatic Bundle.tN "SUPPRESSED_SENTINEL" Bundle.listD, Cond.initialized Bundle.tN, Cond.stringRef "PapersDesk" 225 "no such ask", Cond.stringRef "PapersDesk" 243 "nothing such is told of an ask", Cond.instantiable "PapersDesk" 14, Cond.castable nseN nseN, Cond.declares (Bundle.initS "java/lang/RuntimeException"), Cond.declares (Bundle.initS "java/lang/Exception"), Cond.declares (Bundle.initS "java/lang/Throwable")]
set_option maxRecDepth 100000 in
theorem stX_a : stX.all (fun w => decide (w ∈ lw_tbl)) = true := by decide +kernel
set_option maxRecDepth 100000 in
theorem stF_x : ([Cond.isRef (.static Bundle.tN "UNASSIGNED_STACK" Bundle.steD), Cond.isRef (.static Bundle.tN "SUPPRESSED_SENTINEL" Bundle.listD)] : List Cond).all (fun w => decide (w ∈ stF)) = true := by decide +kernel
theorem st_y20 {s : State} {b : Nat} (hts : ∀ w ∈ lw_tbl, w.before #[Value.ref b] s = true) (hv : ∀ w, w ∈ stF → w.before #[Value.ref b] s = true) (hA : ∀ a : Nat, a < s.heap.size → ¬ (fun q => s.heap.size ≤ q) a) : gY20 (fun q => s.heap.size ≤ q) s s.heap := by
  have ft := List.all_eq_true.mp stX_a
  have vt : ∀ w ∈ stX, w.before #[Value.ref b] s = true := fun w hw => hts w (of_decide_eq_true (ft w hw))
  have fa := List.all_eq_true.mp stF_x
  have va := fun (w : Cond) hw => hv w (of_decide_eq_true (fa w hw))
  obtain ⟨cC, kC, hfc, -⟩ := Cond.instantiable_spec (vt (.instantiable "PapersDesk" 14) (by simp [stX]))
  obtain ⟨-, -, -, a1, -, -, -, -, -, e1⟩ := Cond.stringRef_spec hfc (vt (.stringRef "PapersDesk" 225 "no such ask") (by simp [stX]))
  obtain ⟨-, -, -, a2, -, -, -, -, -, e2⟩ := Cond.stringRef_spec hfc (vt (.stringRef "PapersDesk" 243 "nothing such is told of an ask") (by simp [stX]))
  exact ⟨vx_Zqof (vt _ (by simp [stX])) (vt _ (by simp [stX])) (va _ (by simp)) hA, vx_Zqof (vt _ (by simp [stX])) (vt _ (by simp [stX])) (va _ (by simp)) hA, ⟨a1, vk_R.of (vt _ (by simp [stX])) e1⟩, ⟨a2, vk_R.of (vt _ (by simp [stX])) e2⟩, va_Nw.of rfl (vt _ (by simp [stX])), va_Nw.of rfl (vt _ (by simp [stX])), va_Nw.of rfl (vt _ (by simp [stX])), va_Nw.of rfl (vt _ (by simp [stX]))⟩
theorem st_ext {p : Program} {s : State} {m : MethodId} {meth : Method} {c : Code} {b L : Nat} {xs : Nat → Int32} (C0 : lw_At p s m meth c b L xs) : ∃ (E mi : Nat) (sK sV : Nat → Nat), gExt (fun q => s.heap.size ≤ q) E mi sK sV b L xs s s.heap := by
  obtain ⟨-, -, -, -, -, hts, hX, -, -, hgv⟩ := C0
  have hv : ∀ w, w ∈ stF → w.before #[Value.ref b] s = true := fun w hw => flat_of_before _ hgv w hw
  have hA : ∀ a : Nat, a < s.heap.size → ¬ (fun q => s.heap.size ≤ q) a := fun a ha => Nat.not_le.mpr ha
  have fa := List.all_eq_true.mp stF_a
  have ft := List.all_eq_true.mp stW_a
  have va := fun (w : Cond) hw => hv w (of_decide_eq_true (fa w hw))
  have vt : ∀ w ∈ stW, w.before #[Value.ref b] s = true := fun w hw => hts w (of_decide_eq_true (ft w hw))
  have vc : ∀ q ∈ vwCl, (Cond.castable q.1 "java/lang/Object").before #[Value.ref b] s = true := fun q hq => hts _ (of_decide_eq_true (List.all_eq_true.mp stW_c q hq))
  have vr : ∀ i, i < 8 → (Cond.stringRef "PapersDesk$Tape" (sIx.getD i 0) (sTx.getD i "")).before #[Value.ref b] s = true := fun i hi => hts _ (of_decide_eq_true (List.all_eq_true.mp stW_r i (List.mem_range.mpr hi)))
  have vs : ∀ i, i < 8 → (Cond.exactly (stT i) "java/lang/String").before #[Value.ref b] s = true ∧ (Cond.eq (.field (stT i) "java/lang/String" "coder" "B") (.int 0)).before #[Value.ref b] s = true ∧ (Cond.arrayOf (stV i) .byte).before #[Value.ref b] s = true ∧ (Cond.eq (.length (stV i)) (.int (Int32.ofNat (sLen.getD i 0)))).before #[Value.ref b] s = true := fun i hi => by
    have w := List.all_eq_true.mp stF_s i (List.mem_range.mpr hi)
    simp only [Bool.and_eq_true, decide_eq_true_eq] at w
    exact ⟨hv _ w.1.1.1, hv _ w.1.1.2, hv _ w.1.2, hv _ w.2⟩
  have ve : ∀ i, i < 8 → ∀ j, j < sLen.getD i 0 → (Cond.eq (.elem (stV i) (.int (Int32.ofNat j))) (.int ((sByt.getD i []).getD j 0))).before #[Value.ref b] s = true := fun i hi j hj => by
    have w := List.all_eq_true.mp (List.all_eq_true.mp stF_e i (List.mem_range.mpr hi)) j (List.mem_range.mpr hj)
    exact hv _ (of_decide_eq_true w)
  have vn : ∀ i j : Nat, i < 8 → j < 8 → i ≠ j → (Cond.not (Cond.eq (stT i) (stT j))).before #[Value.ref b] s = true ∨ (Cond.not (Cond.eq (stT j) (stT i))).before #[Value.ref b] s = true := fun i j hi hj ne => by
    have w := List.all_eq_true.mp (List.all_eq_true.mp stF_n i (List.mem_range.mpr hi)) j (List.mem_range.mpr hj)
    simp only [Bool.or_eq_true, decide_eq_true_eq] at w
    rcases w with w | w | w
    · exact absurd w ne
    · exact Or.inl (hv _ w)
    · exact Or.inr (hv _ w)
  obtain ⟨E, hE, hT⟩ := va_Tof (args := #[Value.ref b]) (s := s) (tm := .static "java/util/ArrayList" "DEFAULTCAPACITY_EMPTY_ELEMENTDATA" "[Ljava/lang/Object;") (ty := .object "java/lang/Object") (N := 0) (f := fun _ => .null) (A := fun q => s.heap.size ≤ q) (by omega) (va _ (by simp)) (va_eqt (va _ (by simp))) (fun j hj => absurd hj (Nat.not_lt_zero j)) hA
  obtain ⟨mi, hmi⟩ := va_Mi.of (va (Cond.isRef (.mirror "[Ljava/lang/Object;")) (by simp))
  obtain ⟨sK, sV, hS, hK⟩ := vk_Sof (args := #[Value.ref b]) (s := s) (N := 8) (tm := stT) (len := sLen) (byt := sByt) (A := fun q => s.heap.size ≤ q) (fun i hi => by
    have hd : ∀ i : Fin 8, sLen.getD i.val 0 < 2 ^ 31 := by decide
    exact hd ⟨i, hi⟩) (fun i hi => (vs i hi).1) (fun i hi => (vs i hi).2.1) (fun i hi => (vs i hi).2.2.1) (fun i hi => (vs i hi).2.2.2) ve vn hA
  refine ⟨E, mi, sK, sV, ⟨va_Zof (vt _ (by simp [stW])) (vt (.initialized "java/util/ArrayList") (by simp [stW])) hE hA, hT, va_AO.of (vt _ (by simp [stW])), hmi, va_Dc.of (vt _ (by simp [stW])), fun ci q _ hq => va_Nw.of rfl (vc q (List.mem_of_getElem? hq)), va_Nw.of rfl (vt (.castable "[I" "java/lang/Cloneable") (by simp [stW]))⟩, ⟨va_Zof (vt _ (by simp [stW])) (vt (.initialized "java/lang/String") (by simp [stW])) (va_eqt (va _ (by simp))) hA, va_Zqof (vt _ (by simp [stW])) (vt (.initialized "jdk/internal/util/Preconditions") (by simp [stW])) (va _ (by simp)) hA, hS, fun i hi => ?_⟩, ⟨va_Nw.of rfl (vt _ (by simp [stW])), va_Nw.of rfl (vt _ (by simp [stW]))⟩, hX, st_y20 hts hv hA⟩
  exact vk_R.of (A := #[Value.ref b]) (vr i hi) (hK i hi)
