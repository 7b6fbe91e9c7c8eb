/-! THE START: the externals hold -/
def stF : List Cond := flatC (Jvm.Cond.and given_1 narrow_1)
def stT (i : Nat) : Term := .string "PapersDesk$Tape" (sIx.getD i 0)
def stV (i : Nat) : Term := .field (stT i) "java/lang/String" "value" "[B"
set_option maxRecDepth 100000 in
theorem stF_s : (List.range 8).all (fun i => decide (Cond.exactly (stT i) "java/lang/String" ∈ stF) && decide (Cond.eq (.field (stT i) "java/lang/String" "coder" "B") (.int 0) ∈ stF) && decide (Cond.arrayOf (stV i) .byte ∈ stF) && decide (Cond.eq (.length (stV i)) (.int (Int32.ofNat (sLen.getD i 0))) ∈ stF)) = true := by decide +kernel
set_option maxRecDepth 100000 in
theorem stF_e : (List.range 8).all (fun i => (List.range (sLen.getD i 0)).all (fun j => decide (Cond.eq (.elem (stV i) (.int (Int32.ofNat j))) (.int ((sByt.getD i []).getD j 0)) ∈ stF))) = true := by decide +kernel
set_option maxRecDepth 100000 in
theorem stF_n : (List.range 8).all (fun i => (List.range 8).all (fun j => decide (i = j) || (decide (Cond.not (Cond.eq (stT i) (stT j)) ∈ stF) || decide (Cond.not (Cond.eq (stT j) (stT i)) ∈ stF)))) = true := by decide +kernel
set_option maxRecDepth 100000 in
theorem stF_a : ([Cond.arrayOf (.static "java/util/ArrayList" "DEFAULTCAPACITY_EMPTY_ELEMENTDATA" "[Ljava/lang/Object;") (.object "java/lang/Object"), Cond.eq (.length (.static "java/util/ArrayList" "DEFAULTCAPACITY_EMPTY_ELEMENTDATA" "[Ljava/lang/Object;")) (.int 0), Cond.eq (.static "java/lang/String" "COMPACT_STRINGS" "Z") (.int 1), Cond.isRef (.static "jdk/internal/util/Preconditions" "SIOOBE_FORMATTER" "Ljava/util/function/BiFunction;"), Cond.isRef (.mirror "[Ljava/lang/Object;")] : List Cond).all (fun w => decide (w ∈ stF)) = true := by decide +kernel
def stW : List Cond := [Cond.laysStatic "java/util/ArrayList" "DEFAULTCAPACITY_EMPTY_ELEMENTDATA" "[Ljava/lang/Object;", Cond.initialized "java/util/ArrayList", Cond.laysStatic "java/lang/String" "COMPACT_STRINGS" "Z", Cond.initialized "java/lang/String", Cond.laysStatic "jdk/internal/util/Preconditions" "SIOOBE_FORMATTER" "Ljava/util/function/BiFunction;", Cond.initialized "jdk/internal/util/Preconditions", Cond.arrayOver (.object "java/lang/Object"), Cond.declares ⟨"java/lang/Object", "getClass", "()Ljava/lang/Class;"⟩, Cond.castable "[I" "java/lang/Cloneable", Cond.methodLinkNest "PapersDesk" 50 (gY mX6_init) "PapersDesk", Cond.methodLinkNest "PapersDesk" 57 (gY mX5_init) "PapersDesk"]
set_option maxRecDepth 100000 in
theorem stW_a : stW.all (fun w => decide (w ∈ lw_tbl)) = true := by decide +kernel
set_option maxRecDepth 100000 in
theorem stW_c : vwCl.all (fun q => decide (Cond.castable q.1 "java/lang/Object" ∈ lw_tbl)) = true := by decide +kernel
set_option maxRecDepth 100000 in
theorem stW_r : (List.range 8).all (fun i => decide (Cond.stringRef "PapersDesk$Tape" (sIx.getD i 0) (sTx.getD i "") ∈ lw_tbl)) = true := by decide +kernel
