/-! THE START: what is known of the cells that are not ours -/
def gExt (A : Nat → Prop) (E mi : Nat) (sK sV : Nat → Nat) (b L : Nat) (xs : Nat → Int32) (U : State) (H : Heap) : Prop := (va_Z "java/util/ArrayList" "DEFAULTCAPACITY_EMPTY_ELEMENTDATA" "[Ljava/lang/Object;" (.ref E) A U H ∧ va_T (.object "java/lang/Object") E 0 (fun _ => .null) A U H ∧ va_AO "java/lang/Object" U ∧ va_Mi "[Ljava/lang/Object;" mi U ∧ va_Dc U ∧ (∀ (ci : Nat) (q : vw_C), ci < 11 → vwCl[ci]? = some q → va_Nw (.castable q.1 "java/lang/Object") U) ∧ va_Nw (.castable "[I" "java/lang/Cloneable") U) ∧ (va_Z "java/lang/String" "COMPACT_STRINGS" "Z" (.int 1) A U H ∧ va_Zq "jdk/internal/util/Preconditions" "SIOOBE_FORMATTER" "Ljava/util/function/BiFunction;" A U H ∧ vk_S 8 sLen sByt sK sV A U H ∧ ∀ i, i < 8 → vk_R "PapersDesk$Tape" (sIx.getD i 0) (sTx.getD i "") (sK i) U) ∧ (va_Nw (.methodLinkNest "PapersDesk" 50 (gY mX6_init) "PapersDesk") U ∧ va_Nw (.methodLinkNest "PapersDesk" 57 (gY mX5_init) "PapersDesk") U) ∧ va_X b L xs U H ∧ gY20 A U H
theorem gExt_ex {base E mi b L : Nat} {sK sV : Nat → Nat} {xs : Nat → Int32} (hb : b < base) {U U' : State} {H H' : Heap} (hv : U.vm = U'.vm ∨ U.WarmedH U'.vm) (hq : ∀ q, q < base → H'[q]? = H[q]?) (h : gExt (fun q => base ≤ q) E mi sK sV b L xs U H) : gExt (fun q => base ≤ q) E mi sK sV b L xs U' H' := by
  obtain ⟨⟨a1, a2, a3, a4, a5, a6, a7⟩, ⟨b1, b2, b3, b4⟩, ⟨c1, c2⟩, d1, y1, y2, ⟨t1, y3⟩, ⟨t2, y4⟩, y5, y6, y7, y8⟩ := h
  have al : U.vm.Alike U'.vm := by
    rcases hv with e | e
    · rw [e]; exact Vm.Alike.refl _
    · exact e.alike
  have hk : ∀ a : Nat, a < H.size → ¬ (fun q => base ≤ q) a → H'[a]? = H[a]? := fun a _ w => hq a (Nat.not_le.mp w)
  have nc : ∀ {C T : String}, va_Nw (.castable C T) U → va_Nw (.castable C T) U' := fun w => by
    rcases hv with e | e
    · exact w.same rfl e
    · exact w.warmC e
  have nm : ∀ {a : String} {i : Nat} {x : MethodName} {h : String}, va_Nw (.methodLinkNest a i x h) U → va_Nw (.methodLinkNest a i x h) U' := fun w => by
    rcases hv with e | e
    · exact w.same rfl e
    · exact w.warmM e
  have nd : ∀ {x : MethodName}, va_Nw (.declares x) U → va_Nw (.declares x) U' := fun w => by
    rcases hv with e | e
    · exact w.same rfl e
    · exact w.warmD e
  have vr : ∀ {own tx : String} {k a : Nat}, vk_R own k tx a U → vk_R own k tx a U' := fun w => by
    rcases hv with e | e
    · exact w.same e.symm
    · exact w.warm e
  refine ⟨⟨(a1.moved al).kept hk, (a2.moved al).kept hk, a3.moved al, a4.moved al, a5.moved al, fun ci q h1 h2 => nc (a6 ci q h1 h2), nc a7⟩, ⟨(b1.moved al).kept hk, (b2.moved al).kept hk, (b3.moved al).kept hk, fun i hi => vr (b4 i hi)⟩, ⟨nm c1, nm c2⟩, (d1.moved al).kept (hq b hb), (y1.moved al).kept hk, (y2.moved al).kept hk, ⟨t1, vr y3⟩, ⟨t2, vr y4⟩, nc y5, nd y6, nd y7, nd y8⟩
theorem gExt_all {l : Launch} {D : va_G} {ty : Nat → ClassId} {base E mi b L : Nat} {sK sV : Nat → Nat} {xs : Nat → Int32} (hb : b < base) (hL : L ≤ 3584) (hl : l.stackTraces = false) {B : gB} (hB : B = (l, D, ty, base, gExt (fun q => base ≤ q) E mi sK sV b L xs)) : gEx B ∧ gXt B E mi ∧ gXs B sK sV ∧ gXn B ∧ gXz B b L xs ∧ gXx B := by
  subst hB
  exact ⟨fun U U' H H' hv hq h => gExt_ex hb hv hq h, fun U H h => h.1, fun U H h => h.2.1, fun U H h => h.2.2.1, ⟨hb, hL, fun U H h => h.2.2.2.1⟩, hl, fun U H h => h.2.2.2.2⟩
