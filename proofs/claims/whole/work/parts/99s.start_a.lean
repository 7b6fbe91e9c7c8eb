/-! THE START: from a walk of the light judgement to the claim's walk -/
theorem hasRoom_le {s : State} {pl : Platform} {R R' : Room} (h : s.hasRoom pl R = true) (h1 : R'.frames ≤ R.frames) (h2 : R'.cells ≤ R.cells) (h3 : R'.slots ≤ R.slots) (h4 : R'.locals ≤ R.locals) : s.hasRoom pl R' = true := by
  simp only [State.hasRoom, Bool.and_eq_true, decide_eq_true_eq] at h ⊢
  obtain ⟨⟨⟨⟨a1, a2, a3, a4, a5, a6⟩, a7⟩, a8⟩, a9⟩ := h
  refine ⟨⟨⟨⟨?_, ?_, ?_, ?_, ?_, a6⟩, ?_⟩, ?_⟩, a9⟩ <;> omega
theorem lw_go {B : gB} {p : Program} {e : Env} {s : State} {m : MethodId} {below : List Frame} {meth : Method} {c : Code} {b : Nat} {h0 : gHp} (G : gG B mL_law 2048 601024 7293034 0 [(0, .ref b)] [] h0 (fun v _ => v = some (.int (nI 1)))) (C : gC B mL_law p s m #[Value.ref b] meth c) (R0 : gRel B h0 s.heap) (hb : B.2.2.2.1 = s.heap.size) : W p B.1 e room_1 s m #[Value.ref b] below meth c s.heap [] 0 0 (lw_Z below #[Value.ref b] s) (entryFrame m ([Value.ref b] : List Value).toArray 7) := by
  rw [lg_entry_eq]
  have K := G p e s m #[Value.ref b] below meth c s.heap [] 0 0 _ C R0 va_S.rf (lv_entry [Value.ref b] (show 1 ≤ 7 by omega))
  intro T hT X
  have X' : Stand p B.1 e (gRm 2048 (0 + 601024) (0 + 7293034)) s m #[Value.ref b] below meth c T [] 0 0 := { X with room := hasRoom_le X.room (by decide) (by decide) (by decide) (by decide) }
  obtain ⟨t, hst, o, hrun, hend, ⟨⟨v, h, ho, hv, -⟩, -⟩, L, ⟨hr, hw, hsame⟩, hfree⟩ := K T hT X'
  refine ⟨t, hst, o, hrun, hend, ?_, ?_, hw, ?_⟩
  · rw [ho, hv]; rfl
  · exact ⟨v, ho⟩
  · exact hsame.weaken (fun y hy hlt => absurd hlt (Nat.not_lt.mpr (by rw [← hb]; exact hfree y hy))) (Nat.le_refl _) (Nat.le_refl _)
