/-! THE WORDS: the good words of the tables, the classes' field words among them -/
theorem goodIn_r {big : List Cond} (ws : List Cond) (ps : List Nat) (hp : ws = ps.filterMap (fun i => big[i]?)) (h : ws.all goodWord = true) : GoodIn big ws := by
  intro w hw
  have h1 := List.all_eq_true.mp h w hw
  rw [hp] at hw
  obtain ⟨i, -, hi⟩ := List.mem_filterMap.mp hw
  have hm : w ∈ big := by first | exact List.mem_of_getElem? hi | exact List.getElem?_mem hi
  exact ⟨hm, good_of_word h1⟩
theorem goodIn_app {big a b : List Cond} (ha : GoodIn big a) (hb : GoodIn big b) : GoodIn big (a ++ b) := fun w h => (List.mem_append.mp h).elim (ha w) (hb w)
theorem goodIn_ca {big a b : List Cond} {c : Cond} (ha : GoodIn big (c :: a)) (hb : GoodIn big b) : GoodIn big (c :: (a ++ b)) := fun w h => (List.mem_cons.mp h).elim (fun e => ha w (List.mem_cons.mpr (Or.inl e))) (fun h => (List.mem_append.mp h).elim (fun h => ha w (List.mem_cons.mpr (Or.inr h))) (hb w))
theorem goodIn_sub {big ws : List Cond} (hm : ∀ w ∈ ws, w ∈ big) (h : ws.all goodWord = true) : GoodIn big ws := fun w hw => ⟨hm w hw, good_of_word (List.all_eq_true.mp h w hw)⟩
theorem gGoodIn : GoodIn lw_good lw_good := goodIn_sub (fun _ h => h) (List.all_eq_true.mpr (fun _ h => (List.mem_filter.mp h).2))
theorem gMem {w : Cond} {i : Nat} (h : lw_tbl[i]? = some w) (g : goodWord w = true) : w ∈ lw_good := List.mem_filter.mpr ⟨List.mem_of_getElem? h, g⟩
theorem gMemW {ws : List Cond} (h : ws.all (fun w => decide (w ∈ lw_tbl) && goodWord w) = true) : ∀ w ∈ ws, w ∈ lw_good := fun w hw => by
  have := List.all_eq_true.mp h w hw
  simp only [Bool.and_eq_true, decide_eq_true_eq] at this
  exact List.mem_filter.mpr this
set_option maxRecDepth 100000 in
theorem gIn0 : ∀ w ∈ u_ws RJx4a65c TJx4a65c 3, w ∈ lw_good := gMemW (by decide +kernel)
set_option maxRecDepth 100000 in
theorem gIn1 : ∀ w ∈ u_ws RX0 TX0 12, w ∈ lw_good := gMemW (by decide +kernel)
set_option maxRecDepth 100000 in
theorem gIn2 : ∀ w ∈ u_ws RX1 TX1 5, w ∈ lw_good := gMemW (by decide +kernel)
set_option maxRecDepth 100000 in
theorem gIn3 : ∀ w ∈ u_ws RX2 TX2 3, w ∈ lw_good := gMemW (by decide +kernel)
set_option maxRecDepth 100000 in
theorem gIn4 : ∀ w ∈ u_ws RX3 TX3 6, w ∈ lw_good := gMemW (by decide +kernel)
set_option maxRecDepth 100000 in
theorem gIn5 : ∀ w ∈ u_ws RX4 TX4 5, w ∈ lw_good := gMemW (by decide +kernel)
set_option maxRecDepth 100000 in
theorem gIn6 : ∀ w ∈ u_ws RX5 TX5 6, w ∈ lw_good := gMemW (by decide +kernel)
set_option maxRecDepth 100000 in
theorem gIn7 : ∀ w ∈ u_ws RX6 TX6 4, w ∈ lw_good := gMemW (by decide +kernel)
set_option maxRecDepth 100000 in
theorem gIn8 : ∀ w ∈ u_ws RX7 TX7 9, w ∈ lw_good := gMemW (by decide +kernel)
set_option maxRecDepth 100000 in
theorem gIn9 : ∀ w ∈ u_ws RX8 TX8 14, w ∈ lw_good := gMemW (by decide +kernel)
set_option maxRecDepth 100000 in
theorem gIn10 : ∀ w ∈ u_ws RX9 TX9 64, w ∈ lw_good := gMemW (by decide +kernel)
theorem gIn {c : Nat} {q : vw_C} (h : vwCl[c]? = some q) : ∀ w ∈ u_ws q.1 q.2.1 q.2.2, w ∈ lw_good := by
  match c, h with
  | 0, h => cases h; exact gIn0
  | 1, h => cases h; exact gIn1
  | 2, h => cases h; exact gIn2
  | 3, h => cases h; exact gIn3
  | 4, h => cases h; exact gIn4
  | 5, h => cases h; exact gIn5
  | 6, h => cases h; exact gIn6
  | 7, h => cases h; exact gIn7
  | 8, h => cases h; exact gIn8
  | 9, h => cases h; exact gIn9
  | 10, h => cases h; exact gIn10
  | k + 11, h => simp [vwCl] at h
theorem gTyO {c : Nat} {q : vw_C} (h : vwCl[c]? = some q) : ∃ ty : Nat → FieldType, ∀ k, k < q.2.2 → parseFieldDescriptor (q.2.1 k).2.2.1 = some (ty k) := by
  match c, h with
  | 0, h => cases h; exact ⟨tyJx4a65c, tyJx4a65c_ok⟩
  | 1, h => cases h; exact ⟨tyX0, tyX0_ok⟩
  | 2, h => cases h; exact ⟨tyX1, tyX1_ok⟩
  | 3, h => cases h; exact ⟨tyX2, tyX2_ok⟩
  | 4, h => cases h; exact ⟨tyX3, tyX3_ok⟩
  | 5, h => cases h; exact ⟨tyX4, tyX4_ok⟩
  | 6, h => cases h; exact ⟨tyX5, tyX5_ok⟩
  | 7, h => cases h; exact ⟨tyX6, tyX6_ok⟩
  | 8, h => cases h; exact ⟨tyX7, tyX7_ok⟩
  | 9, h => cases h; exact ⟨tyX8, tyX8_ok⟩
  | 10, h => cases h; exact ⟨tyX9, tyX9_ok⟩
  | k + 11, h => simp [vwCl] at h
theorem gNmO {c : Nat} {q : vw_C} (h : vwCl[c]? = some q) : ∀ a, a < q.2.2 → ∀ b, b < q.2.2 → a ≠ b → (q.2.1 a).2.1 ≠ (q.2.1 b).2.1 := by
  match c, h with
  | 0, h => cases h; exact nmJx4a65c
  | 1, h => cases h; exact nmX0
  | 2, h => cases h; exact nmX1
  | 3, h => cases h; exact nmX2
  | 4, h => cases h; exact nmX3
  | 5, h => cases h; exact nmX4
  | 6, h => cases h; exact nmX5
  | 7, h => cases h; exact nmX6
  | 8, h => cases h; exact nmX7
  | 9, h => cases h; exact nmX8
  | 10, h => cases h; exact nmX9
  | k + 11, h => simp [vwCl] at h
