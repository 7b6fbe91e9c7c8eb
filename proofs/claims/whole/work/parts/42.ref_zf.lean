/-! the reference: rules -/
theorem wvL_lt {T : Nat → Nat} {k : Nat} (hT : ∀ j, T j < 2 ^ 31) : ∀ m, (∀ j, j < m → j < 8 → T (k + j) ≤ 122) → wvL T k m < 37 ^ 8 ∧ (m ≤ 8 → wvL T k m < 37 ^ m) := by
  intro m
  induction m with
  | zero => intro _; simp only [wvL, dvL]; exact ⟨by decide, fun _ => by decide⟩
  | succ m ih =>
    intro h
    have := ih (fun j h1 h2 => h j (by omega) h2)
    unfold wvL
    by_cases h8 : m < 8
    · have ht := h m (by omega) h8
      have h3 := this.2 (by omega)
      have e : 37 ^ (m + 1) = 37 ^ m * 37 := by rw [Nat.pow_succ]
      have e8 : 37 ^ (m + 1) ≤ 37 ^ 8 := Nat.pow_le_pow_right (by decide) (by omega)
      rw [if_pos h8]
      refine ⟨by omega, fun _ => by omega⟩
    · rw [if_neg h8]
      exact ⟨this.1, fun h => absurd h (by omega)⟩
theorem dvL_lt {T : Nat → Nat} {k : Nat} : ∀ m, (∀ j, j < m → j < 4 → T (k + j) ≤ 57) → dvL T k m < 10 ^ 4 ∧ (m ≤ 4 → dvL T k m < 10 ^ m) := by
  intro m
  induction m with
  | zero => intro _; simp only [wvL, dvL]; exact ⟨by decide, fun _ => by decide⟩
  | succ m ih =>
    intro h
    have := ih (fun j h1 h2 => h j (by omega) h2)
    unfold dvL
    by_cases h8 : m < 4
    · have ht := h m (by omega) h8
      have h3 := this.2 (by omega)
      have e : 10 ^ (m + 1) = 10 ^ m * 10 := by rw [Nat.pow_succ]
      have e8 : 10 ^ (m + 1) ≤ 10 ^ 4 := Nat.pow_le_pow_right (by decide) (by omega)
      rw [if_pos h8]
      refine ⟨by omega, fun _ => by omega⟩
    · rw [if_neg h8]
      exact ⟨this.1, fun h => absurd h (by omega)⟩
theorem rE_all (p : Nat → Bool) (T : Nat → Nat) (z : Nat) : ∀ n k j, k ≤ j → j < rE p T z n k → p (T j) = true := by
  intro n
  induction n with
  | zero => intro k j h1 h2; unfold rE at h2; omega
  | succ n ih =>
    intro k j h1 h2
    unfold rE at h2
    split at h2
    · rename_i c
      by_cases e : j = k
      · subst e; exact c.2
      · exact ih (k + 1) j (by omega) h2
    · omega
theorem cutS_in {T : Nat → Nat} {z : Nat} : ∀ f k, (∀ m, m ∈ cutS T z f k → m < z) ∧ (k ≤ z → (cutS T z f k).length + k ≤ z) := by
  intro f
  induction f with
  | zero => intro k; exact ⟨fun m h => by simp [cutS] at h, fun h => by simp [cutS]; exact h⟩
  | succ f ih =>
    intro k
    unfold cutS
    split
    · exact ⟨fun m h => by simp at h, fun h => by simpa using h⟩
    · rename_i hz
      split
      · have := ih (k + 1)
        exact ⟨this.1, fun h => by have := this.2 (by omega); omega⟩
      · have t := tkE_gt (T := T) (z := z) (k := k) (by omega)
        have := ih (tkE T z k)
        refine ⟨fun m h => ?_, fun h => ?_⟩
        · rw [List.mem_cons] at h
          rcases h with h | h
          · omega
          · exact this.1 m h
        · have := this.2 t.2
          simp only [List.length_cons]
          omega
/-- the tokens and places of what has been fed -/
def tkC (T : Nat → Nat) (z : Nat) (M : List Nat) (i : Nat) : Nat := if i < M.length then tkc (tkS T z (M.getD i 0)) (tkV T z (M.getD i 0)) else 0
def tkP (z : Nat) (M : List Nat) (i : Nat) : Nat := if i < M.length then M.getD i 0 else z
theorem tkV_lt {T : Nat → Nat} {z k : Nat} (hT : ∀ j, T j < 2 ^ 31) (hk : k < z) : tkV T z k < 2 ^ 62 ∧ (tkS T z k = 2 → tkV T z k < 10000) ∧ tkS T z k ≤ 4 ∧ 1 ≤ tkS T z k ∧ (tkS T z k = 3 → chS (tkV T z k) = true) := by
  unfold tkV tkS tkE
  by_cases hl : chL (T k) = true
  · simp only [hl, if_true]
    have := (wvL_lt (k := k) hT (rE chL T z (z - k) k - k) (fun j h1 h2 => by
      have := rE_all chL T z (z - k) k (k + j) (by omega) (by omega)
      simp [chL] at this
      omega)).1
    refine ⟨by omega, ?_, ?_, ?_, ?_⟩
    · split <;> intro h <;> omega
    · split <;> omega
    · split <;> omega
    · split <;> intro h <;> omega
  · simp only [hl, if_false]
    by_cases hd : chD (T k) = true
    · simp only [hd, if_true]
      have := (dvL_lt (T := T) (k := k) (rE chD T z (z - k) k - k) (fun j h1 h2 => by
        have := rE_all chD T z (z - k) k (k + j) (by omega) (by omega)
        simp [chD] at this
        omega)).1
      refine ⟨by simp; omega, fun _ => by simp; omega, ?_, ?_, ?_⟩
      · simp; split <;> omega
      · simp; split <;> omega
      · simp; split <;> intro h <;> omega
    · simp only [hd, if_false]
      have := hT k
      refine ⟨by simp; omega, ?_, ?_, ?_, ?_⟩
      · simp; split <;> intro h <;> omega
      · simp; split <;> omega
      · simp; split <;> omega
      · simp
theorem gD_mem {M : List Nat} {i : Nat} (h : i < M.length) : M.getD i 0 ∈ M := by
  rw [List.getD_eq_getElem?_getD, List.getElem?_eq_getElem h]
  exact List.getElem_mem h
theorem tkC_lt {T : Nat → Nat} {z : Nat} {M : List Nat} (hT : ∀ j, T j < 2 ^ 31) (hM : ∀ m, m ∈ M → m < z) : ∀ i, tkC T z M i < 10017 := by
  intro i
  unfold tkC
  split
  · rename_i h
    have := tkV_lt hT (hM _ (gD_mem h))
    have hW := tkW_r (tkV T z (M.getD i 0))
    have hG := tkG_r (tkV T z (M.getD i 0))
    unfold tkc
    repeat' split
    all_goals omega
  · omega
theorem tkC_0 {T : Nat → Nat} {z : Nat} {M : List Nat} : tkC T z M M.length = 0 := by
  unfold tkC
  rw [if_neg (by omega)]
theorem ctF_te {T : Nat → Nat} {z : Nat} {M : List Nat} {a : Nat → Nat → Nat} (hz : z ≤ 600) (hT : ∀ j, T j < 2 ^ 31) (hM : ∀ m, m ∈ M → m < z) (h9 : a 9 0 = 519931663 ∧ a 9 1 = 1176170 ∧ a 9 2 = 1891 ∧ a 9 3 = 1633 ∧ a 9 4 = 5538 ∧ a 9 5 = 444789672 ∧ a 9 6 = 30047016 ∧ a 9 7 = 1402353114) (h6 : a 6 M.length < 2 ^ 62) : TE (tkC T z M) (tkP z M) M.length (ctF a T z M) := by
  refine ⟨fun i hi => ?_, ?_⟩
  · unfold ctF ctA tkC tkP
    simp only [up2_eq, Nat.reduceEqDiff, false_and, true_and, if_false]
    by_cases e : i = M.length
    · subst e
      simp only [if_true, Nat.lt_irrefl, if_false]
      exact ⟨rfl, trivial, hz, by omega, h6, fun h => by omega⟩
    · have hl : i < M.length := by omega
      simp only [e, hl, if_true, if_false]
      have := hM _ (gD_mem hl)
      have v := tkV_lt hT this
      exact ⟨trivial, trivial, by omega, v.2.2.1, v.1, v.2.2.2.2⟩
  · unfold ctF ctA
    simp only [up2_eq, Nat.reduceEqDiff, false_and, if_false]
    exact h9
/-- the rules in force, with their place -/
def RLP (s : Nat → Nat) (a : Nat → Nat → Nat) (rl : List (Nat × List (Nat × Nat))) : Prop := RUL s a rl ∧ (∀ (i : Nat) (l : Nat × List (Nat × Nat)), rl[i]? = some l → 660 * s 15 ≤ a 12 (16 * s 15 + i) ∧ a 12 (16 * s 15 + i) + l.2.length < 660 * s 15 + 660) ∧ ∀ l, l ∈ rl → l.1 ≤ 9 ∧ GC 16 l.2
theorem cAt_cs {a b : Nat → Nat → Nat} : ∀ {c : List (Nat × Nat)} {p : Nat}, (∀ e j, e = 13 ∨ e = 14 → p ≤ j → j ≤ p + c.length → b e j = a e j) → cAt a p c → cAt b p c := by
  intro c
  induction c with
  | nil =>
    intro p h k
    exact ⟨by rw [h 13 p (by omega) (by omega) (by simp)]; exact k.1, k.2⟩
  | cons t r ih =>
    intro p h k
    simp only [List.length_cons] at h
    exact ⟨by rw [h 13 p (by omega) (by omega) (by omega)]; exact k.1, by rw [h 14 p (by omega) (by omega) (by omega)]; exact k.2.1, k.2.2.1, k.2.2.2.1, k.2.2.2.2.1, k.2.2.2.2.2.1, ih (fun e j he h1 h2 => h e j he (by omega) (by omega)) k.2.2.2.2.2.2⟩
theorem cAt_of {a : Nat → Nat → Nat} : ∀ {c : List (Nat × Nat)} {p : Nat}, (∀ k, k < c.length + 1 → a 13 (p + k) = ((c ++ [(0, 0)]).getD k (0, 0)).1 ∧ a 14 (p + k) = ((c ++ [(0, 0)]).getD k (0, 0)).2) → p + c.length < 1320 → (∀ q, q ∈ c → GQ q) → cAt a p c := by
  intro c
  induction c with
  | nil =>
    intro p h hp hq
    have := h 0 (by simp)
    exact ⟨by simpa using this.1, by simpa using hp⟩
  | cons t r ih =>
    intro p h hp hq
    simp only [List.length_cons] at h hp
    have h0 := h 0 (by omega)
    have g := hq t (List.mem_cons_self ..)
    refine ⟨by simpa using h0.1, by simpa using h0.2, g.1, g.2.1, g.2.2.2.1, by omega, ih (fun k hk => ?_) (by omega) (fun q hm => hq q (List.mem_cons_of_mem _ hm))⟩
    have := h (k + 1) (by omega)
    rw [show p + 1 + k = p + (k + 1) by omega]
    simpa using this
theorem cdF_split : ∀ {rl : List (Nat × List (Nat × Nat))} {i : Nat} {l : Nat × List (Nat × Nat)}, rl[i]? = some l → ∃ t, cdF rl = cdF (rl.take i) ++ ((l.2 ++ [(0, 0)]) ++ t) := by
  intro rl
  induction rl with
  | nil => intro i l h; simp at h
  | cons t r ih =>
    intro i l h
    rcases i with _ | i
    · simp at h
      subst h
      exact ⟨cdF r, by simp [cdF]⟩
    · simp only [List.getElem?_cons_succ] at h
      obtain ⟨u, e⟩ := ih h
      exact ⟨u, by simp [cdF, e]⟩
theorem LR_RLP {q i : Nat} {s0 : Nat → Nat} {a0 : Nat → Nat → Nat} {rl : List (Nat × List (Nat × Nat))} {s : Nat → Nat} {a : Nat → Nat → Nat} (hq1 : q ≤ 1) (hi : i ≤ 600) (h : LR q s0 a0 i rl s a) : RLP (va_up s 15 q) a rl := by
  obtain ⟨fl, e7, e8, e17, e16, e10, hrl, hle, hcd, hli, hgd⟩ := h
  have e15 : va_up s 15 q 15 = q := by rw [va_up_eq, if_pos rfl]
  have key : ∀ (i : Nat) (l : Nat × List (Nat × Nat)), rl[i]? = some l → i < rl.length ∧ l ∈ rl ∧ a 12 (16 * q + i) = 660 * q + (cdF (rl.take i)).length ∧ (cdF (rl.take i)).length + l.2.length < 601 := by
    intro i l hl
    have hlt : i < rl.length := by
      rcases Nat.lt_or_ge i rl.length with h | h
      · exact h
      · rw [List.getElem?_eq_none h] at hl; cases hl
    obtain ⟨t, e⟩ := cdF_split hl
    have := congrArg List.length e
    simp only [List.length_append, List.length_cons, List.length_nil] at this
    exact ⟨hlt, List.mem_of_getElem? hl, (hli i hlt).2, by omega⟩
  refine ⟨⟨by omega, by rw [e15]; exact e10, hrl, fun i l hl => ?_⟩, fun i l hl => ?_, hgd⟩
  · obtain ⟨k1, k2, k3, k4⟩ := key i l hl
    rw [e15, k3, (hli i k1).1]
    have g := hgd l k2
    refine ⟨by rw [List.getD_eq_getElem?_getD, hl]; rfl, g.1, cAt_of (fun k hk => ?_) (by omega) g.2.1, by omega, fun kn => ?_⟩
    · obtain ⟨t, e⟩ := cdF_split hl
      have len := congrArg List.length e
      simp only [List.length_append, List.length_cons, List.length_nil] at len
      have := hcd ((cdF (rl.take i)).length + k) (by omega)
      rw [e] at this
      rw [show 660 * q + (cdF (rl.take i)).length + k = 660 * q + ((cdF (rl.take i)).length + k) by omega]
      have e2 : (cdF (rl.take i) ++ ((l.2 ++ [(0, 0)]) ++ t)).getD ((cdF (rl.take i)).length + k) (0, 0) = (l.2 ++ [(0, 0)]).getD k (0, 0) := by
        rw [List.getD_eq_getElem?_getD, List.getD_eq_getElem?_getD, List.getElem?_append_right (by omega), Nat.add_sub_cancel_left, List.getElem?_append_left (by simp; omega)]
      rw [e2] at this
      exact this
    · obtain ⟨v, e⟩ := g.2.2 16 kn [] (by simp)
      exact ⟨v, evL_ev 16 kn _ _ _ e⟩
  · obtain ⟨k1, k2, k3, k4⟩ := key i l hl
    rw [e15, k3]
    omega
theorem RLP_keep {q : Nat} {s0 : Nat → Nat} {a0 : Nat → Nat → Nat} {s : Nat → Nat} {a : Nat → Nat → Nat} {rl : List (Nat × List (Nat × Nat))} (hq : q = 1 - s0 15) (fl : FL q s0 a0 s a) (h : RLP s0 a0 rl) : RLP s a rl := by
  obtain ⟨⟨r1, r2, r3, r4⟩, r5, r6⟩ := h
  obtain ⟨f1, f2, f3, f4, f5⟩ := fl
  have e15 : s 15 = s0 15 := f1 15 (by omega) (by omega) (by omega) (by omega)
  have key : ∀ (i : Nat) (l : Nat × List (Nat × Nat)), rl[i]? = some l → i < rl.length := by
    intro i l hl
    rcases Nat.lt_or_ge i rl.length with h | h
    · exact h
    · rw [List.getElem?_eq_none h] at hl; cases hl
  refine ⟨⟨by omega, by rw [e15, f5 _ (by omega)]; exact r2, r3, fun i l hl => ?_⟩, fun i l hl => ?_, r6⟩
  · have := key i l hl
    have p := r5 i l hl
    rw [e15, f4 11 _ (by omega) (by omega), f4 12 _ (by omega) (by omega)]
    obtain ⟨x1, x2, x3, x4⟩ := r4 i l hl
    exact ⟨x1, x2, cAt_cs (fun e j he h1 h2 => f3 e j he (by omega)) x3, x4⟩
  · have := key i l hl
    rw [e15, f4 12 _ (by omega) (by omega)]
    exact r5 i l hl
/-- what 'rules' leaves as it was -/
def RK (s : Nat → Nat) (a : Nat → Nat → Nat) (s' : Nat → Nat) (a' : Nat → Nat → Nat) : Prop := (∀ k, k ≠ 2 → k ≠ 3 → k ≠ 7 → k ≠ 8 → k ≠ 15 → k ≠ 16 → k ≠ 17 → k ≠ 18 → s' k = s k) ∧ s' 2 = 0 ∧ (∀ e j, ¬ (4 ≤ e ∧ e ≤ 6) → ¬ (10 ≤ e ∧ e ≤ 14) → ¬ (19 ≤ e ∧ e ≤ 21) → a' e j = a e j)
/-- what has been fed, read -/
def rdRes (T : Nat → Nat) (z : Nat) : Nat ⊕ List (Nat × List (Nat × Nat)) := rdA (tkC T z (cutS T z z 0)) (tkP z (cutS T z z 0)) 17 0 []
section REFZF
variable {B : gB} {x : Nat} {xa : Nat → Nat} {h : gHp} {s : Nat → Nat} {a : Nat → Nat → Nat} {d : Nat} {Q : Option Value → gHp → Prop}
variable {C P : Nat → Nat} {nE q i m : Nat} {s0 : Nat → Nat} {a0 : Nat → Nat → Nat} {h0 : gHp}
set_option maxHeartbeats 1600000 in
theorem r_rules_loop (te : TE C P nE a0) (hN : nE ≤ 600) (hC0 : C nE = 0) (hC : ∀ i, C i < 10017) (hq1 : q ≤ 1) : ∀ f i rl h s a, rl.length + f = 17 → i ≤ nE → RS x xa h s a → RP h0 h → LR q s0 a0 i rl s a → (match rdA C P f i rl with
    | .inl F => ∀ h s a, RS x xa h s a → RP h0 h → FL q s0 a0 s a → s 8 = F → (0 < F ∧ F < 2 ^ 31) → gG B mX9_rules (d + 5) 0 0 60 [(0, .ref x)] [] h Q
    | .inr r2 => ∀ h s a j, j ≤ 600 → RS x xa h s a → RP h0 h → LR q s0 a0 j r2 s a → gG B mX9_rules (d + 5) 0 0 60 [(0, .ref x)] [] h Q) → gG B mX9_rules (d + 5) 0 0 34 [(0, .ref x)] [] h Q := by
  intro f
  induction f with
  | zero =>
    intro i rl h s a h1 h2 hr hf hl
    have := hl.2.2.2.2.2.2.1
    omega
  | succ f ih =>
    intro i rl h s a h1 h2 hr hf hl hq
    have hl' := hl
    obtain ⟨fl, e7, e8, e17, e16, e10, hrl, hle, hcd, hli, hgd⟩ := hl
    have te' := fl.te te
    obtain ⟨t1, t2, t3, t4, t5, t6⟩ := te'.1 i h2
    have h4 : a 4 i = 0 ↔ C i = 0 := by
      have := t1
      unfold tkc at this
      have hW := tkW_r (a 6 i)
      have hG := tkG_r (a 6 i)
      repeat' split at this
      all_goals omega
    unfold rdA at hq
    obtain ⟨⟨w0, wR, wK, wN, wI⟩, wS, wA, wZ, wG, wJ, wB⟩ := id hr
    refine gAx (cut := [(60, [0]), (34, [0])]) okX9_rules 60 ?_
    simp only [axC_nil, axC_hit, axC_def, cutAt, lvLive, Option.isSome_none, Option.isSome_some, catS, lvGet, lvIns, lvSet1, lvSet2, gLit_0, gLit_1, lv_args, fv0, fv1, fv2, fv3, isI_s, isL_s, isRf_s, isRf_n, gtI_s, gtL_s, gtV_s, gFilter_nil, gFilter_cons, gL1, gL2, gL3, gL4, gL5, va_rf_s, va_rf_n, hK_sI, hK_sR, hK_sA, hK_sJ, hK_sO, hI_sI, hI_sR, hI_sA, hI_sJ, hI_sO, hR_sI, hR_sR, hR_sA, hR_sJ, hR_sO, hN_sI, hN_sR, hN_sA, hN_sJ, hN_sO, hA_sI, hA_sR, hA_sA, hA_sJ, hA_sO, hJ_sI, hJ_sR, hJ_sA, hJ_sJ, hJ_sO, hO_sI, hO_sR, hO_sA, hO_sJ, hO_sO, up3_eq, up2_eq, List.map_cons, List.map_nil, List.sum_cons, List.sum_nil, List.nil_append, List.cons_append, Option.toList_some, Option.toList_none, true_and, and_true, if_true, if_false, and_self, true_or, or_true, or_false, false_or, false_and, and_false, not_true_eq_false, not_false_eq_true, forall_const, reduceCtorEq, implies_true, List.contains_cons, List.contains_nil, Bool.or_false, Bool.false_or, Bool.or_true, Bool.true_or, Bool.and_true, Bool.true_and, Bool.and_false, Bool.false_and, Bool.not_true, Bool.not_false, BEq.rfl, Bool.false_eq_true, Bool.true_eq_false, eq_self, ↓reduceIte, Nat.reduceAdd, Nat.reduceEqDiff, Nat.reduceBEq, Nat.reduceLT, Nat.reduceLeDiff, Nat.reduceSub, Nat.reduceMul, Nat.reduceBNe, List.append_nil, Nat.zero_le, Nat.zero_add, Nat.zero_ne_one, Nat.one_ne_zero, false_implies, true_implies, not_false_eq_true, ne_eq, upd_e, updL_e, bI_zo, nI0z, nI1o, nI1z, nI0o, nI0q, nI1q, nm1_lt, nm1_ge, ax_aload_n tX9_rules_0, ax_iconst tX9_rules_1, ax_putI tX9_rules_2, ax_aload_n tX9_rules_5, ax_callV0 tX9_rules_6, ax_aload_n tX9_rules_9, ax_iconst tX9_rules_10, ax_aload_n tX9_rules_11, ax_getI tX9_rules_12, ax_isub tX9_rules_15, ax_putI tX9_rules_16, ax_aload_n tX9_rules_19, ax_getR tX9_rules_20, ax_aload_n tX9_rules_23, ax_getI tX9_rules_24, ax_iconst tX9_rules_27, ax_iastore tX9_rules_28, ax_aload_n tX9_rules_29, ax_iconst tX9_rules_30, ax_putI tX9_rules_31, ax_aload_n tX9_rules_34, ax_getI tX9_rules_35, ax_if_ne tX9_rules_38, ax_aload_n tX9_rules_41, ax_getR tX9_rules_42, ax_aload_n tX9_rules_45, ax_getI tX9_rules_46, ax_iaload tX9_rules_49, ax_if_eq tX9_rules_50, ax_aload_n tX9_rules_53, ax_callV0 tX9_rules_54, ax_goto tX9_rules_57, ax_aload_n tX9_rules_60, ax_getI tX9_rules_61, ax_if_ne tX9_rules_64, ax_aload_n tX9_rules_67, ax_aload_n tX9_rules_68, ax_getI tX9_rules_69, ax_putI tX9_rules_72, ax_aload_n tX9_rules_75, ax_getI tX9_rules_76, ax_iretI tX9_rules_79, f_110, f_120, w0, wR, wK, wN, wI, wS, wA, wZ, wG, wJ, ru_0, ru_1, ru_2, ru_3, ru_4, ru_5, ru_6, ru_7, ru_8, ru_9, ru_10, ru_11, ru_12, ru_13, ru_14, ru_15, ru_16, ru_17, ru_18, ru_19, ru_20, ru_21, ru_22, ru_23, ru_24, ru_25, ru_26, ru_27, ru_28, ru_29, ru_30, ru_31, ru_32, ru_33, ru_34, ru_35, ru_36, ru_37, ru_38, ru_39, ru_40, ru_41, ru_42, ru_43, ru_44, ru_45, ru_46, ru_47, ru_48, ru_49, ru_50, ru_51, ru_52, ru_53, ru_54, ru_55, ru_56, ru_57, ru_58, ru_59, ru_60, ru_61, ru_62, ru_63, sc_2, sc_3, sc_7, sc_8, sc_15, sc_16, sc_17, sc_18, sc_24, sc_25, sc_27, sc_31, sc_36, sc_44, sc_46, sc_57, ir_1, rK_1, rN_1, ir_4, rK_4, rN_4, ir_5, rK_5, rN_5, ir_6, rK_6, rN_6, ir_9, rK_9, rN_9, ir_10, rK_10, rN_10, ir_11, rK_11, rN_11, ir_12, rK_12, rN_12, ir_13, rK_13, rN_13, ir_14, rK_14, rN_14, ir_19, rK_19, rN_19, ir_20, rK_20, rN_20, ir_21, rK_21, rN_21, ir_22, rK_22, rN_22, ir_23, rK_23, rN_23, ir_26, rK_26, rN_26, ir_28, rK_28, rN_28, ir_29, rK_29, rN_29, ir_30, rK_30, rN_30, ir_32, rK_32, rN_32, ir_33, rK_33, rN_33, ir_34, rK_34, rN_34, ir_35, rK_35, rN_35, ir_37, rK_37, rN_37, ir_38, rK_38, rN_38, ir_39, rK_39, rN_39, ir_40, rK_40, rN_40, ir_41, rK_41, rN_41, ir_42, rK_42, rN_42, ir_43, rK_43, rN_43, ir_45, rK_45, rN_45, ir_47, rK_47, rN_47, ir_48, rK_48, rN_48, ir_49, rK_49, rN_49, ir_50, rK_50, rN_50, ir_51, rK_51, rN_51, ir_52, rK_52, rN_52, ir_53, rK_53, rN_53, ir_54, rK_54, rN_54, ir_55, rK_55, rN_55, ir_56, rK_56, rN_56, ir_58, rK_58, rN_58, ir_59, rK_59, rN_59, ir_60, rK_60, rN_60, ir_61, rK_61, rN_61, ir_62, rK_62, rN_62, ir_63, rK_63, rN_63]
    simp only [e7, e8]
    simp (disch := omega) only [z0, o1, nI_add, pk_mul, nI_ltI, nI_leI, nI_eq, nI_clamp, vpn, pk_sub, Nat.add_sub_cancel, bI_0, bI_1, eq_self, true_or, or_true, or_false, false_or, true_and, and_true, false_and, and_false, and_self, or_self, forall_const, not_true_eq_false, not_false_eq_true, false_implies, implies_true, true_implies, ↓reduceIte, if_true, if_false, Nat.not_lt_zero, Nat.zero_le, Nat.le_refl, Nat.lt_irrefl, ne_eq, reduceCtorEq, Bool.false_eq_true]
    refine ⟨by omega, fun c => ?_, fun c => ?_⟩
    · rw [if_pos (h4.1 c)] at hq
      exact hq h s a i (by omega) hr hf hl'
    · rw [if_neg (fun e => c (h4.2 e))] at hq
      have hLok : ∀ j g c, rdL C P rl.length i = .inr (j, g, c) → j ≤ nE := by
        intro j g c e
        unfold rdL at e
        split at e
        · cases e
        rename_i c1
        split at e
        · cases e
        split at e
        · cases e
        split at e
        · cases e
        split at e
        · cases e
        rename_i c5
        split at e
        · cases e
        rename_i j2 c2 e3
        have i1 : i + 1 ≤ nE := nx_le hN hC0 h2 (k := C i) rfl (by omega)
        have i2 : i + 1 + 1 ≤ nE := nx_le hN hC0 i1 (k := C (i + 1)) rfl (by omega)
        have i3 : i + 2 + 1 ≤ nE := nx_le hN hC0 i2 (k := C (i + 2)) rfl (by omega)
        have := rdE_ok hN hC0 (rdP_ok (P := P) hN hC0 hC 5) i3 e3
        split at e
        · rename_i c11
          cases e
          exact nx_le hN hC0 this.2.1 c11 (by omega)
        · cases e
      refine r_line te hN hC0 hC hq1 h2 hr (RF.rf h) hl' ?_
      generalize rdL C P rl.length i = res at hq hLok
      rcases res with F | ⟨j, g, c⟩
      · intro h' s' a' r f fl e8 hF
        have hq2 := hq h' s' a' r (hf.tr f) fl e8 hF
        clear w0 wR wK wN wI wS wA wZ wG wJ wB hr
        have hr := r
        obtain ⟨⟨w0, wR, wK, wN, wI⟩, wS, wA, wZ, wG, wJ, wB⟩ := id hr
        refine gAx (cut := [(60, [0])]) okX9_rules 60 ?_
        simp only [axC_nil, axC_hit, axC_def, cutAt, lvLive, Option.isSome_none, Option.isSome_some, catS, lvGet, lvIns, lvSet1, lvSet2, gLit_0, gLit_1, lv_args, fv0, fv1, fv2, fv3, isI_s, isL_s, isRf_s, isRf_n, gtI_s, gtL_s, gtV_s, gFilter_nil, gFilter_cons, gL1, gL2, gL3, gL4, gL5, va_rf_s, va_rf_n, hK_sI, hK_sR, hK_sA, hK_sJ, hK_sO, hI_sI, hI_sR, hI_sA, hI_sJ, hI_sO, hR_sI, hR_sR, hR_sA, hR_sJ, hR_sO, hN_sI, hN_sR, hN_sA, hN_sJ, hN_sO, hA_sI, hA_sR, hA_sA, hA_sJ, hA_sO, hJ_sI, hJ_sR, hJ_sA, hJ_sJ, hJ_sO, hO_sI, hO_sR, hO_sA, hO_sJ, hO_sO, up3_eq, up2_eq, List.map_cons, List.map_nil, List.sum_cons, List.sum_nil, List.nil_append, List.cons_append, Option.toList_some, Option.toList_none, true_and, and_true, if_true, if_false, and_self, true_or, or_true, or_false, false_or, false_and, and_false, not_true_eq_false, not_false_eq_true, forall_const, reduceCtorEq, implies_true, List.contains_cons, List.contains_nil, Bool.or_false, Bool.false_or, Bool.or_true, Bool.true_or, Bool.and_true, Bool.true_and, Bool.and_false, Bool.false_and, Bool.not_true, Bool.not_false, BEq.rfl, Bool.false_eq_true, Bool.true_eq_false, eq_self, ↓reduceIte, Nat.reduceAdd, Nat.reduceEqDiff, Nat.reduceBEq, Nat.reduceLT, Nat.reduceLeDiff, Nat.reduceSub, Nat.reduceMul, Nat.reduceBNe, List.append_nil, Nat.zero_le, Nat.zero_add, Nat.zero_ne_one, Nat.one_ne_zero, false_implies, true_implies, not_false_eq_true, ne_eq, upd_e, updL_e, bI_zo, nI0z, nI1o, nI1z, nI0o, nI0q, nI1q, nm1_lt, nm1_ge, ax_aload_n tX9_rules_0, ax_iconst tX9_rules_1, ax_putI tX9_rules_2, ax_aload_n tX9_rules_5, ax_callV0 tX9_rules_6, ax_aload_n tX9_rules_9, ax_iconst tX9_rules_10, ax_aload_n tX9_rules_11, ax_getI tX9_rules_12, ax_isub tX9_rules_15, ax_putI tX9_rules_16, ax_aload_n tX9_rules_19, ax_getR tX9_rules_20, ax_aload_n tX9_rules_23, ax_getI tX9_rules_24, ax_iconst tX9_rules_27, ax_iastore tX9_rules_28, ax_aload_n tX9_rules_29, ax_iconst tX9_rules_30, ax_putI tX9_rules_31, ax_aload_n tX9_rules_34, ax_getI tX9_rules_35, ax_if_ne tX9_rules_38, ax_aload_n tX9_rules_41, ax_getR tX9_rules_42, ax_aload_n tX9_rules_45, ax_getI tX9_rules_46, ax_iaload tX9_rules_49, ax_if_eq tX9_rules_50, ax_aload_n tX9_rules_53, ax_callV0 tX9_rules_54, ax_goto tX9_rules_57, ax_aload_n tX9_rules_60, ax_getI tX9_rules_61, ax_if_ne tX9_rules_64, ax_aload_n tX9_rules_67, ax_aload_n tX9_rules_68, ax_getI tX9_rules_69, ax_putI tX9_rules_72, ax_aload_n tX9_rules_75, ax_getI tX9_rules_76, ax_iretI tX9_rules_79, f_110, f_120, w0, wR, wK, wN, wI, wS, wA, wZ, wG, wJ, ru_0, ru_1, ru_2, ru_3, ru_4, ru_5, ru_6, ru_7, ru_8, ru_9, ru_10, ru_11, ru_12, ru_13, ru_14, ru_15, ru_16, ru_17, ru_18, ru_19, ru_20, ru_21, ru_22, ru_23, ru_24, ru_25, ru_26, ru_27, ru_28, ru_29, ru_30, ru_31, ru_32, ru_33, ru_34, ru_35, ru_36, ru_37, ru_38, ru_39, ru_40, ru_41, ru_42, ru_43, ru_44, ru_45, ru_46, ru_47, ru_48, ru_49, ru_50, ru_51, ru_52, ru_53, ru_54, ru_55, ru_56, ru_57, ru_58, ru_59, ru_60, ru_61, ru_62, ru_63, sc_2, sc_3, sc_7, sc_8, sc_15, sc_16, sc_17, sc_18, sc_24, sc_25, sc_27, sc_31, sc_36, sc_44, sc_46, sc_57, ir_1, rK_1, rN_1, ir_4, rK_4, rN_4, ir_5, rK_5, rN_5, ir_6, rK_6, rN_6, ir_9, rK_9, rN_9, ir_10, rK_10, rN_10, ir_11, rK_11, rN_11, ir_12, rK_12, rN_12, ir_13, rK_13, rN_13, ir_14, rK_14, rN_14, ir_19, rK_19, rN_19, ir_20, rK_20, rN_20, ir_21, rK_21, rN_21, ir_22, rK_22, rN_22, ir_23, rK_23, rN_23, ir_26, rK_26, rN_26, ir_28, rK_28, rN_28, ir_29, rK_29, rN_29, ir_30, rK_30, rN_30, ir_32, rK_32, rN_32, ir_33, rK_33, rN_33, ir_34, rK_34, rN_34, ir_35, rK_35, rN_35, ir_37, rK_37, rN_37, ir_38, rK_38, rN_38, ir_39, rK_39, rN_39, ir_40, rK_40, rN_40, ir_41, rK_41, rN_41, ir_42, rK_42, rN_42, ir_43, rK_43, rN_43, ir_45, rK_45, rN_45, ir_47, rK_47, rN_47, ir_48, rK_48, rN_48, ir_49, rK_49, rN_49, ir_50, rK_50, rN_50, ir_51, rK_51, rN_51, ir_52, rK_52, rN_52, ir_53, rK_53, rN_53, ir_54, rK_54, rN_54, ir_55, rK_55, rN_55, ir_56, rK_56, rN_56, ir_58, rK_58, rN_58, ir_59, rK_59, rN_59, ir_60, rK_60, rN_60, ir_61, rK_61, rN_61, ir_62, rK_62, rN_62, ir_63, rK_63, rN_63]
        simp only [e8]
        simp (disch := omega) only [z0, o1, nI_add, pk_mul, nI_ltI, nI_leI, nI_eq, nI_clamp, vpn, pk_sub, Nat.add_sub_cancel, bI_0, bI_1, eq_self, true_or, or_true, or_false, false_or, true_and, and_true, false_and, and_false, and_self, or_self, forall_const, not_true_eq_false, not_false_eq_true, false_implies, implies_true, true_implies, ↓reduceIte, if_true, if_false, Nat.not_lt_zero, Nat.zero_le, Nat.le_refl, Nat.lt_irrefl, ne_eq, reduceCtorEq, Bool.false_eq_true]
        exact ⟨fun _ => hq2, fun c => absurd c (by omega)⟩
      · intro h' s' a' r f hl
        have := ih j (rl ++ [(g, c)]) h' s' a' (by simp; omega) (hLok j g c rfl) r (hf.tr f) hl hq
        refine gAx (cut := [(34, [0])]) okX9_rules 60 ?_
        simp only [axC_nil, axC_hit, axC_def, cutAt, lvLive, Option.isSome_none, Option.isSome_some, catS, lvGet, lvIns, lvSet1, lvSet2, gLit_0, gLit_1, lv_args, fv0, fv1, fv2, fv3, isI_s, isL_s, isRf_s, isRf_n, gtI_s, gtL_s, gtV_s, gFilter_nil, gFilter_cons, gL1, gL2, gL3, gL4, gL5, va_rf_s, va_rf_n, hK_sI, hK_sR, hK_sA, hK_sJ, hK_sO, hI_sI, hI_sR, hI_sA, hI_sJ, hI_sO, hR_sI, hR_sR, hR_sA, hR_sJ, hR_sO, hN_sI, hN_sR, hN_sA, hN_sJ, hN_sO, hA_sI, hA_sR, hA_sA, hA_sJ, hA_sO, hJ_sI, hJ_sR, hJ_sA, hJ_sJ, hJ_sO, hO_sI, hO_sR, hO_sA, hO_sJ, hO_sO, up3_eq, up2_eq, List.map_cons, List.map_nil, List.sum_cons, List.sum_nil, List.nil_append, List.cons_append, Option.toList_some, Option.toList_none, true_and, and_true, if_true, if_false, and_self, true_or, or_true, or_false, false_or, false_and, and_false, not_true_eq_false, not_false_eq_true, forall_const, reduceCtorEq, implies_true, List.contains_cons, List.contains_nil, Bool.or_false, Bool.false_or, Bool.or_true, Bool.true_or, Bool.and_true, Bool.true_and, Bool.and_false, Bool.false_and, Bool.not_true, Bool.not_false, BEq.rfl, Bool.false_eq_true, Bool.true_eq_false, eq_self, ↓reduceIte, Nat.reduceAdd, Nat.reduceEqDiff, Nat.reduceBEq, Nat.reduceLT, Nat.reduceLeDiff, Nat.reduceSub, Nat.reduceMul, Nat.reduceBNe, List.append_nil, Nat.zero_le, Nat.zero_add, Nat.zero_ne_one, Nat.one_ne_zero, false_implies, true_implies, not_false_eq_true, ne_eq, upd_e, updL_e, bI_zo, nI0z, nI1o, nI1z, nI0o, nI0q, nI1q, nm1_lt, nm1_ge, ax_aload_n tX9_rules_0, ax_iconst tX9_rules_1, ax_putI tX9_rules_2, ax_aload_n tX9_rules_5, ax_callV0 tX9_rules_6, ax_aload_n tX9_rules_9, ax_iconst tX9_rules_10, ax_aload_n tX9_rules_11, ax_getI tX9_rules_12, ax_isub tX9_rules_15, ax_putI tX9_rules_16, ax_aload_n tX9_rules_19, ax_getR tX9_rules_20, ax_aload_n tX9_rules_23, ax_getI tX9_rules_24, ax_iconst tX9_rules_27, ax_iastore tX9_rules_28, ax_aload_n tX9_rules_29, ax_iconst tX9_rules_30, ax_putI tX9_rules_31, ax_aload_n tX9_rules_34, ax_getI tX9_rules_35, ax_if_ne tX9_rules_38, ax_aload_n tX9_rules_41, ax_getR tX9_rules_42, ax_aload_n tX9_rules_45, ax_getI tX9_rules_46, ax_iaload tX9_rules_49, ax_if_eq tX9_rules_50, ax_aload_n tX9_rules_53, ax_callV0 tX9_rules_54, ax_goto tX9_rules_57, ax_aload_n tX9_rules_60, ax_getI tX9_rules_61, ax_if_ne tX9_rules_64, ax_aload_n tX9_rules_67, ax_aload_n tX9_rules_68, ax_getI tX9_rules_69, ax_putI tX9_rules_72, ax_aload_n tX9_rules_75, ax_getI tX9_rules_76, ax_iretI tX9_rules_79, f_110, f_120]
        exact this
set_option maxHeartbeats 1600000 in
theorem r_rules {rl : List (Nat × List (Nat × Nat))} (hr : RS x xa h s a) (h2 : s 2 ≤ 600) (hl : RLP s a rl) (h9 : a 9 0 = 519931663 ∧ a 9 1 = 1176170 ∧ a 9 2 = 1891 ∧ a 9 3 = 1633 ∧ a 9 4 = 5538 ∧ a 9 5 = 444789672 ∧ a 9 6 = 30047016 ∧ a 9 7 = 1402353114) (h6 : ∀ j, a 6 j < 2 ^ 62)
    (hq : match rdRes (a 1) (s 2) with
      | .inl F => ∀ h' s' a', RS x xa h' s' a' → RP h h' → RK s a s' a' → (∀ j, a' 6 j < 2 ^ 62) → RLP s' a' rl → Q (some (.int (nI F))) h'
      | .inr r2 => ∀ h' s' a', RS x xa h' s' a' → RP h h' → RK s a s' a' → (∀ j, a' 6 j < 2 ^ 62) → RLP s' a' r2 → Q (some (.int (nI 0))) h') : gFn B mX9_rules (d + 5) 0 0 [.ref x] h Q := by
  have h15 := hl.1.1
  have hT := fun j => hr.2.2.2.2.2.2 1 j (by decide)
  generalize hM : cutS (a 1) (s 2) (s 2) 0 = M
  have mi := cutS_in (T := a 1) (z := s 2) (s 2) 0
  rw [hM] at mi
  have mN := mi.2 (by omega)
  have te := ctF_te (a := a) h2 hT mi.1 h9 (h6 _)
  have k6 : ∀ j, ctF a (a 1) (s 2) M 6 j < 2 ^ 62 := by
    intro j
    unfold ctF ctA
    simp only [up2_eq, Nat.reduceEqDiff, false_and, true_and, if_false]
    split
    · rename_i hj
      exact (tkV_lt hT (mi.1 _ (gD_mem hj))).1
    · exact h6 j
  have kA : ∀ e j, ¬ (4 ≤ e ∧ e ≤ 6) → ctF a (a 1) (s 2) M e j = a e j := by
    intro e j he
    unfold ctF ctA
    simp only [up2_eq]
    rw [if_neg (by omega), if_neg (by omega), if_neg (by omega), if_neg (by omega), if_neg (by omega)]
  obtain ⟨⟨w0, wR, wK, wN, wI⟩, wS, wA, wZ, wG, wJ, wB⟩ := id hr
  refine gStartX (cut := [(34, [0])]) pnX9_rules okX9_rules (Nat.le_of_ble_eq_true rfl) 60 ?_
  simp only [axC_nil, axC_hit, axC_def, cutAt, lvLive, Option.isSome_none, Option.isSome_some, catS, lvGet, lvIns, lvSet1, lvSet2, gLit_0, gLit_1, lv_args, fv0, fv1, fv2, fv3, isI_s, isL_s, isRf_s, isRf_n, gtI_s, gtL_s, gtV_s, gFilter_nil, gFilter_cons, gL1, gL2, gL3, gL4, gL5, va_rf_s, va_rf_n, hK_sI, hK_sR, hK_sA, hK_sJ, hK_sO, hI_sI, hI_sR, hI_sA, hI_sJ, hI_sO, hR_sI, hR_sR, hR_sA, hR_sJ, hR_sO, hN_sI, hN_sR, hN_sA, hN_sJ, hN_sO, hA_sI, hA_sR, hA_sA, hA_sJ, hA_sO, hJ_sI, hJ_sR, hJ_sA, hJ_sJ, hJ_sO, hO_sI, hO_sR, hO_sA, hO_sJ, hO_sO, up3_eq, up2_eq, List.map_cons, List.map_nil, List.sum_cons, List.sum_nil, List.nil_append, List.cons_append, Option.toList_some, Option.toList_none, true_and, and_true, if_true, if_false, and_self, true_or, or_true, or_false, false_or, false_and, and_false, not_true_eq_false, not_false_eq_true, forall_const, reduceCtorEq, implies_true, List.contains_cons, List.contains_nil, Bool.or_false, Bool.false_or, Bool.or_true, Bool.true_or, Bool.and_true, Bool.true_and, Bool.and_false, Bool.false_and, Bool.not_true, Bool.not_false, BEq.rfl, Bool.false_eq_true, Bool.true_eq_false, eq_self, ↓reduceIte, Nat.reduceAdd, Nat.reduceEqDiff, Nat.reduceBEq, Nat.reduceLT, Nat.reduceLeDiff, Nat.reduceSub, Nat.reduceMul, Nat.reduceBNe, List.append_nil, Nat.zero_le, Nat.zero_add, Nat.zero_ne_one, Nat.one_ne_zero, false_implies, true_implies, not_false_eq_true, ne_eq, upd_e, updL_e, bI_zo, nI0z, nI1o, nI1z, nI0o, nI0q, nI1q, nm1_lt, nm1_ge, ax_aload_n tX9_rules_0, ax_iconst tX9_rules_1, ax_putI tX9_rules_2, ax_aload_n tX9_rules_5, ax_callV0 tX9_rules_6, ax_aload_n tX9_rules_9, ax_iconst tX9_rules_10, ax_aload_n tX9_rules_11, ax_getI tX9_rules_12, ax_isub tX9_rules_15, ax_putI tX9_rules_16, ax_aload_n tX9_rules_19, ax_getR tX9_rules_20, ax_aload_n tX9_rules_23, ax_getI tX9_rules_24, ax_iconst tX9_rules_27, ax_iastore tX9_rules_28, ax_aload_n tX9_rules_29, ax_iconst tX9_rules_30, ax_putI tX9_rules_31, ax_aload_n tX9_rules_34, ax_getI tX9_rules_35, ax_if_ne tX9_rules_38, ax_aload_n tX9_rules_41, ax_getR tX9_rules_42, ax_aload_n tX9_rules_45, ax_getI tX9_rules_46, ax_iaload tX9_rules_49, ax_if_eq tX9_rules_50, ax_aload_n tX9_rules_53, ax_callV0 tX9_rules_54, ax_goto tX9_rules_57, ax_aload_n tX9_rules_60, ax_getI tX9_rules_61, ax_if_ne tX9_rules_64, ax_aload_n tX9_rules_67, ax_aload_n tX9_rules_68, ax_getI tX9_rules_69, ax_putI tX9_rules_72, ax_aload_n tX9_rules_75, ax_getI tX9_rules_76, ax_iretI tX9_rules_79, f_110, f_120, w0, wR, wK, wN, wI, wS, wA, wZ, wG, wJ, ru_0, ru_1, ru_2, ru_3, ru_4, ru_5, ru_6, ru_7, ru_8, ru_9, ru_10, ru_11, ru_12, ru_13, ru_14, ru_15, ru_16, ru_17, ru_18, ru_19, ru_20, ru_21, ru_22, ru_23, ru_24, ru_25, ru_26, ru_27, ru_28, ru_29, ru_30, ru_31, ru_32, ru_33, ru_34, ru_35, ru_36, ru_37, ru_38, ru_39, ru_40, ru_41, ru_42, ru_43, ru_44, ru_45, ru_46, ru_47, ru_48, ru_49, ru_50, ru_51, ru_52, ru_53, ru_54, ru_55, ru_56, ru_57, ru_58, ru_59, ru_60, ru_61, ru_62, ru_63, sc_2, sc_3, sc_7, sc_8, sc_15, sc_16, sc_17, sc_18, sc_24, sc_25, sc_27, sc_31, sc_36, sc_44, sc_46, sc_57, ir_1, rK_1, rN_1, ir_4, rK_4, rN_4, ir_5, rK_5, rN_5, ir_6, rK_6, rN_6, ir_9, rK_9, rN_9, ir_10, rK_10, rN_10, ir_11, rK_11, rN_11, ir_12, rK_12, rN_12, ir_13, rK_13, rN_13, ir_14, rK_14, rN_14, ir_19, rK_19, rN_19, ir_20, rK_20, rN_20, ir_21, rK_21, rN_21, ir_22, rK_22, rN_22, ir_23, rK_23, rN_23, ir_26, rK_26, rN_26, ir_28, rK_28, rN_28, ir_29, rK_29, rN_29, ir_30, rK_30, rN_30, ir_32, rK_32, rN_32, ir_33, rK_33, rN_33, ir_34, rK_34, rN_34, ir_35, rK_35, rN_35, ir_37, rK_37, rN_37, ir_38, rK_38, rN_38, ir_39, rK_39, rN_39, ir_40, rK_40, rN_40, ir_41, rK_41, rN_41, ir_42, rK_42, rN_42, ir_43, rK_43, rN_43, ir_45, rK_45, rN_45, ir_47, rK_47, rN_47, ir_48, rK_48, rN_48, ir_49, rK_49, rN_49, ir_50, rK_50, rN_50, ir_51, rK_51, rN_51, ir_52, rK_52, rN_52, ir_53, rK_53, rN_53, ir_54, rK_54, rN_54, ir_55, rK_55, rN_55, ir_56, rK_56, rN_56, ir_58, rK_58, rN_58, ir_59, rK_59, rN_59, ir_60, rK_60, rN_60, ir_61, rK_61, rN_61, ir_62, rK_62, rN_62, ir_63, rK_63, rN_63]
  refine r_cutAll (d := d + 1) (hr.T (nI 0)) h2 (fun h' r f => ?_)
  rw [hM] at r
  have hf : RP h h' := RP.tr (RP.rf h).I f
  have e15 : ctS s 15 = s 15 := by simp [ctS]
  have kS : ∀ k, k ≠ 2 → k ≠ 3 → k ≠ 7 → k ≠ 8 → ctS s k = s k := by
    intro k n1 n2 n3 n4
    unfold ctS
    rw [if_neg n2, if_neg n1, if_neg n3, if_neg n4]
  have k2 : ctS s 2 = 0 := by simp [ctS]
  have k7 : ctS s 7 = 0 := by simp [ctS]
  have k8 : ctS s 8 = 0 := by simp [ctS]
  have lp : RLP (ctS s) (ctF a (a 1) (s 2) M) rl := by
    refine RLP_keep (q := 1 - s 15) (s0 := ctS s) (a0 := ctF a (a 1) (s 2) M) (by rw [e15]) ⟨fun _ _ _ _ _ => rfl, fun _ _ _ _ => rfl, fun _ _ _ _ => rfl, fun _ _ _ _ => rfl, fun _ _ => rfl⟩ ?_
    obtain ⟨⟨r1, r2, r3, r4⟩, r5, r6⟩ := hl
    refine ⟨⟨by rw [e15]; exact r1, by rw [e15, kA _ _ (by omega)]; exact r2, r3, fun i l hl => ?_⟩, fun i l hl => ?_, r6⟩
    · rw [e15, kA 11 _ (by omega), kA 12 _ (by omega)]
      obtain ⟨x1, x2, x3, x4⟩ := r4 i l hl
      exact ⟨x1, x2, cAt_cs (fun e j he _ _ => kA e j (by omega)) x3, x4⟩
    · rw [e15, kA 12 _ (by omega)]
      exact r5 i l hl
  clear w0 wR wK wN wI wS wA wZ wG wJ wB
  unfold rdRes at hq
  rw [hM] at hq
  clear hr hl
  generalize ctS s = s1 at r e15 kS k2 k7 k8 lp
  generalize ctF a (a 1) (s 2) M = a1 at r te k6 kA lp
  have hr := r
  obtain ⟨⟨w0, wR, wK, wN, wI⟩, wS, wA, wZ, wG, wJ, wB⟩ := id hr
  refine gAx (cut := [(34, [0])]) okX9_rules 60 ?_
  simp only [axC_nil, axC_hit, axC_def, cutAt, lvLive, Option.isSome_none, Option.isSome_some, catS, lvGet, lvIns, lvSet1, lvSet2, gLit_0, gLit_1, lv_args, fv0, fv1, fv2, fv3, isI_s, isL_s, isRf_s, isRf_n, gtI_s, gtL_s, gtV_s, gFilter_nil, gFilter_cons, gL1, gL2, gL3, gL4, gL5, va_rf_s, va_rf_n, hK_sI, hK_sR, hK_sA, hK_sJ, hK_sO, hI_sI, hI_sR, hI_sA, hI_sJ, hI_sO, hR_sI, hR_sR, hR_sA, hR_sJ, hR_sO, hN_sI, hN_sR, hN_sA, hN_sJ, hN_sO, hA_sI, hA_sR, hA_sA, hA_sJ, hA_sO, hJ_sI, hJ_sR, hJ_sA, hJ_sJ, hJ_sO, hO_sI, hO_sR, hO_sA, hO_sJ, hO_sO, up3_eq, up2_eq, List.map_cons, List.map_nil, List.sum_cons, List.sum_nil, List.nil_append, List.cons_append, Option.toList_some, Option.toList_none, true_and, and_true, if_true, if_false, and_self, true_or, or_true, or_false, false_or, false_and, and_false, not_true_eq_false, not_false_eq_true, forall_const, reduceCtorEq, implies_true, List.contains_cons, List.contains_nil, Bool.or_false, Bool.false_or, Bool.or_true, Bool.true_or, Bool.and_true, Bool.true_and, Bool.and_false, Bool.false_and, Bool.not_true, Bool.not_false, BEq.rfl, Bool.false_eq_true, Bool.true_eq_false, eq_self, ↓reduceIte, Nat.reduceAdd, Nat.reduceEqDiff, Nat.reduceBEq, Nat.reduceLT, Nat.reduceLeDiff, Nat.reduceSub, Nat.reduceMul, Nat.reduceBNe, List.append_nil, Nat.zero_le, Nat.zero_add, Nat.zero_ne_one, Nat.one_ne_zero, false_implies, true_implies, not_false_eq_true, ne_eq, upd_e, updL_e, bI_zo, nI0z, nI1o, nI1z, nI0o, nI0q, nI1q, nm1_lt, nm1_ge, ax_aload_n tX9_rules_0, ax_iconst tX9_rules_1, ax_putI tX9_rules_2, ax_aload_n tX9_rules_5, ax_callV0 tX9_rules_6, ax_aload_n tX9_rules_9, ax_iconst tX9_rules_10, ax_aload_n tX9_rules_11, ax_getI tX9_rules_12, ax_isub tX9_rules_15, ax_putI tX9_rules_16, ax_aload_n tX9_rules_19, ax_getR tX9_rules_20, ax_aload_n tX9_rules_23, ax_getI tX9_rules_24, ax_iconst tX9_rules_27, ax_iastore tX9_rules_28, ax_aload_n tX9_rules_29, ax_iconst tX9_rules_30, ax_putI tX9_rules_31, ax_aload_n tX9_rules_34, ax_getI tX9_rules_35, ax_if_ne tX9_rules_38, ax_aload_n tX9_rules_41, ax_getR tX9_rules_42, ax_aload_n tX9_rules_45, ax_getI tX9_rules_46, ax_iaload tX9_rules_49, ax_if_eq tX9_rules_50, ax_aload_n tX9_rules_53, ax_callV0 tX9_rules_54, ax_goto tX9_rules_57, ax_aload_n tX9_rules_60, ax_getI tX9_rules_61, ax_if_ne tX9_rules_64, ax_aload_n tX9_rules_67, ax_aload_n tX9_rules_68, ax_getI tX9_rules_69, ax_putI tX9_rules_72, ax_aload_n tX9_rules_75, ax_getI tX9_rules_76, ax_iretI tX9_rules_79, f_110, f_120, w0, wR, wK, wN, wI, wS, wA, wZ, wG, wJ, ru_0, ru_1, ru_2, ru_3, ru_4, ru_5, ru_6, ru_7, ru_8, ru_9, ru_10, ru_11, ru_12, ru_13, ru_14, ru_15, ru_16, ru_17, ru_18, ru_19, ru_20, ru_21, ru_22, ru_23, ru_24, ru_25, ru_26, ru_27, ru_28, ru_29, ru_30, ru_31, ru_32, ru_33, ru_34, ru_35, ru_36, ru_37, ru_38, ru_39, ru_40, ru_41, ru_42, ru_43, ru_44, ru_45, ru_46, ru_47, ru_48, ru_49, ru_50, ru_51, ru_52, ru_53, ru_54, ru_55, ru_56, ru_57, ru_58, ru_59, ru_60, ru_61, ru_62, ru_63, sc_2, sc_3, sc_7, sc_8, sc_15, sc_16, sc_17, sc_18, sc_24, sc_25, sc_27, sc_31, sc_36, sc_44, sc_46, sc_57, ir_1, rK_1, rN_1, ir_4, rK_4, rN_4, ir_5, rK_5, rN_5, ir_6, rK_6, rN_6, ir_9, rK_9, rN_9, ir_10, rK_10, rN_10, ir_11, rK_11, rN_11, ir_12, rK_12, rN_12, ir_13, rK_13, rN_13, ir_14, rK_14, rN_14, ir_19, rK_19, rN_19, ir_20, rK_20, rN_20, ir_21, rK_21, rN_21, ir_22, rK_22, rN_22, ir_23, rK_23, rN_23, ir_26, rK_26, rN_26, ir_28, rK_28, rN_28, ir_29, rK_29, rN_29, ir_30, rK_30, rN_30, ir_32, rK_32, rN_32, ir_33, rK_33, rN_33, ir_34, rK_34, rN_34, ir_35, rK_35, rN_35, ir_37, rK_37, rN_37, ir_38, rK_38, rN_38, ir_39, rK_39, rN_39, ir_40, rK_40, rN_40, ir_41, rK_41, rN_41, ir_42, rK_42, rN_42, ir_43, rK_43, rN_43, ir_45, rK_45, rN_45, ir_47, rK_47, rN_47, ir_48, rK_48, rN_48, ir_49, rK_49, rN_49, ir_50, rK_50, rN_50, ir_51, rK_51, rN_51, ir_52, rK_52, rN_52, ir_53, rK_53, rN_53, ir_54, rK_54, rN_54, ir_55, rK_55, rN_55, ir_56, rK_56, rN_56, ir_58, rK_58, rN_58, ir_59, rK_59, rN_59, ir_60, rK_60, rN_60, ir_61, rK_61, rN_61, ir_62, rK_62, rN_62, ir_63, rK_63, rN_63]
  simp only [e15]
  simp (disch := omega) only [z0, o1, nI_add, pk_mul, nI_ltI, nI_leI, nI_eq, nI_clamp, vpn, pk_sub, Nat.add_sub_cancel, bI_0, bI_1, eq_self, true_or, or_true, or_false, false_or, true_and, and_true, false_and, and_false, and_self, or_self, forall_const, not_true_eq_false, not_false_eq_true, false_implies, implies_true, true_implies, ↓reduceIte, if_true, if_false, Nat.not_lt_zero, Nat.zero_le, Nat.le_refl, Nat.lt_irrefl, ne_eq, reduceCtorEq, Bool.false_eq_true]
  refine ⟨by omega, ?_⟩
  have hr2 := ((hr.I (k := 16) (1 - s 15)).A2 (1 - s 15) 0 ru_10 (f := upd (hA h' 112 (xa 10)) (1 - s 15) (nI 0)) (fun i => by simp only [upd_e, up2_eq, wA, wZ, wG, ru_0, ru_1, ru_2, ru_3, ru_4, ru_5, ru_6, ru_7, ru_8, ru_9, ru_10, ru_11, ru_12, ru_13, ru_14, ru_15, ru_16, ru_17, ru_18, ru_19, ru_20, ru_21, ru_22, ru_23, ru_24, ru_25, ru_26, ru_27, ru_28, ru_29, ru_30, ru_31, ru_32, ru_33, ru_34, ru_35, ru_36, ru_37, ru_38, ru_39, ru_40, ru_41, ru_42, ru_43, ru_44, ru_45, ru_46, ru_47, ru_48, ru_49, ru_50, ru_51, ru_52, ru_53, ru_54, ru_55, ru_56, ru_57, ru_58, ru_59, ru_60, ru_61, ru_62, ru_63, sc_2, sc_3, sc_7, sc_8, sc_15, sc_16, sc_17, sc_18, sc_24, sc_25, sc_27, sc_31, sc_36, sc_44, sc_46, sc_57, ir_1, rK_1, rN_1, ir_4, rK_4, rN_4, ir_5, rK_5, rN_5, ir_6, rK_6, rN_6, ir_9, rK_9, rN_9, ir_10, rK_10, rN_10, ir_11, rK_11, rN_11, ir_12, rK_12, rN_12, ir_13, rK_13, rN_13, ir_14, rK_14, rN_14, ir_19, rK_19, rN_19, ir_20, rK_20, rN_20, ir_21, rK_21, rN_21, ir_22, rK_22, rN_22, ir_23, rK_23, rN_23, ir_26, rK_26, rN_26, ir_28, rK_28, rN_28, ir_29, rK_29, rN_29, ir_30, rK_30, rN_30, ir_32, rK_32, rN_32, ir_33, rK_33, rN_33, ir_34, rK_34, rN_34, ir_35, rK_35, rN_35, ir_37, rK_37, rN_37, ir_38, rK_38, rN_38, ir_39, rK_39, rN_39, ir_40, rK_40, rN_40, ir_41, rK_41, rN_41, ir_42, rK_42, rN_42, ir_43, rK_43, rN_43, ir_45, rK_45, rN_45, ir_47, rK_47, rN_47, ir_48, rK_48, rN_48, ir_49, rK_49, rN_49, ir_50, rK_50, rN_50, ir_51, rK_51, rN_51, ir_52, rK_52, rN_52, ir_53, rK_53, rN_53, ir_54, rK_54, rN_54, ir_55, rK_55, rN_55, ir_56, rK_56, rN_56, ir_58, rK_58, rN_58, ir_59, rK_59, rN_59, ir_60, rK_60, rN_60, ir_61, rK_61, rN_61, ir_62, rK_62, rN_62, ir_63, rK_63, rN_63, Nat.reduceLeDiff, Nat.reduceLT, Nat.reduceEqDiff, Nat.one_ne_zero, Nat.zero_ne_one, Nat.reduceSub, Nat.reduceAdd, eq_self, true_or, or_true, or_false, false_or, true_and, and_true, false_and, and_false, and_self, or_self, forall_const, not_true_eq_false, not_false_eq_true, false_implies, implies_true, true_implies, ↓reduceIte, if_true, if_false, Nat.not_lt_zero, Nat.zero_le, Nat.le_refl, Nat.lt_irrefl, ne_eq, reduceCtorEq, Bool.false_eq_true]; first | done | (split <;> rfl))).I (k := 17) 0
  have hf2 : RP h (sI (sA (sI h' 10 16 x (nI (1 - s 15))) 112 (xa 10) (upd (hA h' 112 (xa 10)) (1 - s 15) (nI 0))) 10 17 x (nI 0)) := hf.I.AA.I
  have q15 : va_up (va_up s1 16 (1 - s 15)) 17 0 15 = s 15 := by simp [va_up_eq, e15]
  have q2 : va_up (va_up s1 16 (1 - s 15)) 17 0 2 = 0 := by simp [va_up_eq, k2]
  have q7 : va_up (va_up s1 16 (1 - s 15)) 17 0 7 = 0 := by simp [va_up_eq, k7]
  have q8 : va_up (va_up s1 16 (1 - s 15)) 17 0 8 = 0 := by simp [va_up_eq, k8]
  have q16 : va_up (va_up s1 16 (1 - s 15)) 17 0 16 = 1 - s 15 := by simp [va_up_eq]
  have q17 : va_up (va_up s1 16 (1 - s 15)) 17 0 17 = 0 := by simp [va_up_eq]
  have qS : ∀ k, k ≠ 2 → k ≠ 3 → k ≠ 7 → k ≠ 8 → k ≠ 16 → k ≠ 17 → va_up (va_up s1 16 (1 - s 15)) 17 0 k = s k := by
    intro k n1 n2 n3 n4 n5 n6
    rw [va_up_eq, if_neg n6, va_up_eq, if_neg n5]
    exact kS k n1 n2 n3 n4
  have fl0 : FL (1 - s 15) s1 a1 (va_up (va_up s1 16 (1 - s 15)) 17 0) (up2 a1 10 (1 - s 15) 0) → True := fun _ => trivial
  have te2 : TE (tkC (a 1) (s 2) M) (tkP (s 2) M) M.length (up2 a1 10 (1 - s 15) 0) := by
    obtain ⟨u1, u2⟩ := te
    refine ⟨fun i hi => ?_, ?_⟩
    · simp only [up2_eq, Nat.reduceEqDiff, false_and, if_false]
      exact u1 i hi
    · simp only [up2_eq, Nat.reduceEqDiff, false_and, if_false]
      exact u2
  have a6 : ∀ j, up2 a1 10 (1 - s 15) 0 6 j < 2 ^ 62 := fun j => by rw [up2_eq, if_neg (by omega)]; exact k6 j
  have aA : ∀ e j, ¬ (4 ≤ e ∧ e ≤ 6) → ¬ e = 10 → up2 a1 10 (1 - s 15) 0 e j = a e j := by
    intro e j n1 n2
    rw [up2_eq, if_neg (by omega)]
    exact kA e j n1
  have lp2 : RLP (va_up (va_up s1 16 (1 - s 15)) 17 0) (up2 a1 10 (1 - s 15) 0) rl := by
    obtain ⟨⟨r1, r2, r3, r4⟩, r5, r6⟩ := lp
    rw [e15] at r1 r2 r4 r5
    refine ⟨⟨by rw [q15]; exact r1, by rw [q15, up2_eq, if_neg (by omega)]; exact r2, r3, fun i l hl => ?_⟩, fun i l hl => ?_, r6⟩
    · rw [q15]
      rw [up2_eq, if_neg (by omega), up2_eq, if_neg (by omega)]
      obtain ⟨x1, x2, x3, x4⟩ := r4 i l hl
      exact ⟨x1, x2, cAt_cs (fun e j he _ _ => by rw [up2_eq, if_neg (by omega)]) x3, x4⟩
    · rw [q15]
      rw [up2_eq, if_neg (by omega)]
      exact r5 i l hl
  have a10 : up2 a1 10 (1 - s 15) 0 10 (1 - s 15) = 0 := by simp [up2_eq]
  clear w0 wR wK wN wI wS wA wZ wG wJ wB hr r te k6 kA kS lp
  generalize sI (sA (sI h' 10 16 x (nI (1 - s 15))) 112 (xa 10) (upd (hA h' 112 (xa 10)) (1 - s 15) (nI 0))) 10 17 x (nI 0) = h2 at hr2 hf2 ⊢
  generalize va_up (va_up s1 16 (1 - s 15)) 17 0 = s2 at hr2 q15 q2 q7 q8 q16 q17 qS lp2
  generalize up2 a1 10 (1 - s 15) 0 = a2 at hr2 te2 a6 aA lp2 a10
  refine r_rules_loop (d := d) (q := 1 - s 15) (s0 := s2) (a0 := a2) (h0 := h) te2 (by omega) tkC_0 (tkC_lt hT mi.1) (by omega) 17 0 [] h2 s2 a2 rfl (by omega) hr2 hf2 ⟨⟨fun _ _ _ _ _ => rfl, fun _ _ _ _ => rfl, fun _ _ _ _ => rfl, fun _ _ _ _ => rfl, fun _ _ => rfl⟩, q7, q8, q17, q16, a10, by simp, by simp [cdF], fun k hk => by simp [cdF] at hk, fun k hk => by simp at hk, fun l hm => by simp at hm⟩ ?_
  have rk : ∀ s' a', FL (1 - s 15) s2 a2 s' a' → (∀ k, k ≠ 2 → k ≠ 3 → k ≠ 7 → k ≠ 8 → k ≠ 15 → k ≠ 16 → k ≠ 17 → k ≠ 18 → s' k = s k) ∧ s' 2 = 0 ∧ (∀ e j, ¬ (4 ≤ e ∧ e ≤ 6) → ¬ (10 ≤ e ∧ e ≤ 14) → ¬ (19 ≤ e ∧ e ≤ 21) → a' e j = a e j) ∧ (∀ j, a' 6 j < 2 ^ 62) := by
    intro s' a' fl
    obtain ⟨f1, f2, f3, f4, f5⟩ := fl
    refine ⟨fun k n1 n2 n3 n4 n5 n6 n7 n8 => ?_, ?_, fun e j n1 n2 n3 => ?_, fun j => ?_⟩
    · rw [f1 k n3 n4 n7 n8]; exact qS k n1 n2 n3 n4 n6 n7
    · rw [f1 2 (by omega) (by omega) (by omega) (by omega)]; exact q2
    · rw [f2 e j n2 n3]; exact aA e j n1 (by omega)
    · rw [f2 6 j (by omega) (by omega)]; exact a6 j
  generalize rdA (tkC (a 1) (s 2) M) (tkP (s 2) M) 17 0 [] = res at hq ⊢
  rcases res with F | r2
  · intro h3 s3 a3 r3 f3 fl e8 hF
    have k := rk s3 a3 fl
    have hr := r3
    obtain ⟨⟨w0, wR, wK, wN, wI⟩, wS, wA, wZ, wG, wJ, wB⟩ := id hr
    refine gAx (cut := []) okX9_rules 60 ?_
    simp only [axC_nil, axC_hit, axC_def, cutAt, lvLive, Option.isSome_none, Option.isSome_some, catS, lvGet, lvIns, lvSet1, lvSet2, gLit_0, gLit_1, lv_args, fv0, fv1, fv2, fv3, isI_s, isL_s, isRf_s, isRf_n, gtI_s, gtL_s, gtV_s, gFilter_nil, gFilter_cons, gL1, gL2, gL3, gL4, gL5, va_rf_s, va_rf_n, hK_sI, hK_sR, hK_sA, hK_sJ, hK_sO, hI_sI, hI_sR, hI_sA, hI_sJ, hI_sO, hR_sI, hR_sR, hR_sA, hR_sJ, hR_sO, hN_sI, hN_sR, hN_sA, hN_sJ, hN_sO, hA_sI, hA_sR, hA_sA, hA_sJ, hA_sO, hJ_sI, hJ_sR, hJ_sA, hJ_sJ, hJ_sO, hO_sI, hO_sR, hO_sA, hO_sJ, hO_sO, up3_eq, up2_eq, List.map_cons, List.map_nil, List.sum_cons, List.sum_nil, List.nil_append, List.cons_append, Option.toList_some, Option.toList_none, true_and, and_true, if_true, if_false, and_self, true_or, or_true, or_false, false_or, false_and, and_false, not_true_eq_false, not_false_eq_true, forall_const, reduceCtorEq, implies_true, List.contains_cons, List.contains_nil, Bool.or_false, Bool.false_or, Bool.or_true, Bool.true_or, Bool.and_true, Bool.true_and, Bool.and_false, Bool.false_and, Bool.not_true, Bool.not_false, BEq.rfl, Bool.false_eq_true, Bool.true_eq_false, eq_self, ↓reduceIte, Nat.reduceAdd, Nat.reduceEqDiff, Nat.reduceBEq, Nat.reduceLT, Nat.reduceLeDiff, Nat.reduceSub, Nat.reduceMul, Nat.reduceBNe, List.append_nil, Nat.zero_le, Nat.zero_add, Nat.zero_ne_one, Nat.one_ne_zero, false_implies, true_implies, not_false_eq_true, ne_eq, upd_e, updL_e, bI_zo, nI0z, nI1o, nI1z, nI0o, nI0q, nI1q, nm1_lt, nm1_ge, ax_aload_n tX9_rules_0, ax_iconst tX9_rules_1, ax_putI tX9_rules_2, ax_aload_n tX9_rules_5, ax_callV0 tX9_rules_6, ax_aload_n tX9_rules_9, ax_iconst tX9_rules_10, ax_aload_n tX9_rules_11, ax_getI tX9_rules_12, ax_isub tX9_rules_15, ax_putI tX9_rules_16, ax_aload_n tX9_rules_19, ax_getR tX9_rules_20, ax_aload_n tX9_rules_23, ax_getI tX9_rules_24, ax_iconst tX9_rules_27, ax_iastore tX9_rules_28, ax_aload_n tX9_rules_29, ax_iconst tX9_rules_30, ax_putI tX9_rules_31, ax_aload_n tX9_rules_34, ax_getI tX9_rules_35, ax_if_ne tX9_rules_38, ax_aload_n tX9_rules_41, ax_getR tX9_rules_42, ax_aload_n tX9_rules_45, ax_getI tX9_rules_46, ax_iaload tX9_rules_49, ax_if_eq tX9_rules_50, ax_aload_n tX9_rules_53, ax_callV0 tX9_rules_54, ax_goto tX9_rules_57, ax_aload_n tX9_rules_60, ax_getI tX9_rules_61, ax_if_ne tX9_rules_64, ax_aload_n tX9_rules_67, ax_aload_n tX9_rules_68, ax_getI tX9_rules_69, ax_putI tX9_rules_72, ax_aload_n tX9_rules_75, ax_getI tX9_rules_76, ax_iretI tX9_rules_79, f_110, f_120, w0, wR, wK, wN, wI, wS, wA, wZ, wG, wJ, ru_0, ru_1, ru_2, ru_3, ru_4, ru_5, ru_6, ru_7, ru_8, ru_9, ru_10, ru_11, ru_12, ru_13, ru_14, ru_15, ru_16, ru_17, ru_18, ru_19, ru_20, ru_21, ru_22, ru_23, ru_24, ru_25, ru_26, ru_27, ru_28, ru_29, ru_30, ru_31, ru_32, ru_33, ru_34, ru_35, ru_36, ru_37, ru_38, ru_39, ru_40, ru_41, ru_42, ru_43, ru_44, ru_45, ru_46, ru_47, ru_48, ru_49, ru_50, ru_51, ru_52, ru_53, ru_54, ru_55, ru_56, ru_57, ru_58, ru_59, ru_60, ru_61, ru_62, ru_63, sc_2, sc_3, sc_7, sc_8, sc_15, sc_16, sc_17, sc_18, sc_24, sc_25, sc_27, sc_31, sc_36, sc_44, sc_46, sc_57, ir_1, rK_1, rN_1, ir_4, rK_4, rN_4, ir_5, rK_5, rN_5, ir_6, rK_6, rN_6, ir_9, rK_9, rN_9, ir_10, rK_10, rN_10, ir_11, rK_11, rN_11, ir_12, rK_12, rN_12, ir_13, rK_13, rN_13, ir_14, rK_14, rN_14, ir_19, rK_19, rN_19, ir_20, rK_20, rN_20, ir_21, rK_21, rN_21, ir_22, rK_22, rN_22, ir_23, rK_23, rN_23, ir_26, rK_26, rN_26, ir_28, rK_28, rN_28, ir_29, rK_29, rN_29, ir_30, rK_30, rN_30, ir_32, rK_32, rN_32, ir_33, rK_33, rN_33, ir_34, rK_34, rN_34, ir_35, rK_35, rN_35, ir_37, rK_37, rN_37, ir_38, rK_38, rN_38, ir_39, rK_39, rN_39, ir_40, rK_40, rN_40, ir_41, rK_41, rN_41, ir_42, rK_42, rN_42, ir_43, rK_43, rN_43, ir_45, rK_45, rN_45, ir_47, rK_47, rN_47, ir_48, rK_48, rN_48, ir_49, rK_49, rN_49, ir_50, rK_50, rN_50, ir_51, rK_51, rN_51, ir_52, rK_52, rN_52, ir_53, rK_53, rN_53, ir_54, rK_54, rN_54, ir_55, rK_55, rN_55, ir_56, rK_56, rN_56, ir_58, rK_58, rN_58, ir_59, rK_59, rN_59, ir_60, rK_60, rN_60, ir_61, rK_61, rN_61, ir_62, rK_62, rN_62, ir_63, rK_63, rN_63]
    simp only [e8]
    simp (disch := omega) only [z0, o1, nI_add, pk_mul, nI_ltI, nI_leI, nI_eq, nI_clamp, vpn, pk_sub, Nat.add_sub_cancel, bI_0, bI_1, eq_self, true_or, or_true, or_false, false_or, true_and, and_true, false_and, and_false, and_self, or_self, forall_const, not_true_eq_false, not_false_eq_true, false_implies, implies_true, true_implies, ↓reduceIte, if_true, if_false, Nat.not_lt_zero, Nat.zero_le, Nat.le_refl, Nat.lt_irrefl, ne_eq, reduceCtorEq, Bool.false_eq_true]
    refine ⟨fun _ => ?_, fun c => absurd c (by omega)⟩
    exact hq h3 s3 a3 hr f3 ⟨k.1, k.2.1, k.2.2.1⟩ k.2.2.2 (RLP_keep (by rw [q15]) fl lp2)
  · intro h3 s3 a3 j hj r3 f3 hl
    have e8 := hl.2.2.1
    have e16 := hl.2.2.2.2.1
    have k := rk s3 a3 hl.1
    have hr := r3
    obtain ⟨⟨w0, wR, wK, wN, wI⟩, wS, wA, wZ, wG, wJ, wB⟩ := id hr
    refine gAx (cut := []) okX9_rules 60 ?_
    simp only [axC_nil, axC_hit, axC_def, cutAt, lvLive, Option.isSome_none, Option.isSome_some, catS, lvGet, lvIns, lvSet1, lvSet2, gLit_0, gLit_1, lv_args, fv0, fv1, fv2, fv3, isI_s, isL_s, isRf_s, isRf_n, gtI_s, gtL_s, gtV_s, gFilter_nil, gFilter_cons, gL1, gL2, gL3, gL4, gL5, va_rf_s, va_rf_n, hK_sI, hK_sR, hK_sA, hK_sJ, hK_sO, hI_sI, hI_sR, hI_sA, hI_sJ, hI_sO, hR_sI, hR_sR, hR_sA, hR_sJ, hR_sO, hN_sI, hN_sR, hN_sA, hN_sJ, hN_sO, hA_sI, hA_sR, hA_sA, hA_sJ, hA_sO, hJ_sI, hJ_sR, hJ_sA, hJ_sJ, hJ_sO, hO_sI, hO_sR, hO_sA, hO_sJ, hO_sO, up3_eq, up2_eq, List.map_cons, List.map_nil, List.sum_cons, List.sum_nil, List.nil_append, List.cons_append, Option.toList_some, Option.toList_none, true_and, and_true, if_true, if_false, and_self, true_or, or_true, or_false, false_or, false_and, and_false, not_true_eq_false, not_false_eq_true, forall_const, reduceCtorEq, implies_true, List.contains_cons, List.contains_nil, Bool.or_false, Bool.false_or, Bool.or_true, Bool.true_or, Bool.and_true, Bool.true_and, Bool.and_false, Bool.false_and, Bool.not_true, Bool.not_false, BEq.rfl, Bool.false_eq_true, Bool.true_eq_false, eq_self, ↓reduceIte, Nat.reduceAdd, Nat.reduceEqDiff, Nat.reduceBEq, Nat.reduceLT, Nat.reduceLeDiff, Nat.reduceSub, Nat.reduceMul, Nat.reduceBNe, List.append_nil, Nat.zero_le, Nat.zero_add, Nat.zero_ne_one, Nat.one_ne_zero, false_implies, true_implies, not_false_eq_true, ne_eq, upd_e, updL_e, bI_zo, nI0z, nI1o, nI1z, nI0o, nI0q, nI1q, nm1_lt, nm1_ge, ax_aload_n tX9_rules_0, ax_iconst tX9_rules_1, ax_putI tX9_rules_2, ax_aload_n tX9_rules_5, ax_callV0 tX9_rules_6, ax_aload_n tX9_rules_9, ax_iconst tX9_rules_10, ax_aload_n tX9_rules_11, ax_getI tX9_rules_12, ax_isub tX9_rules_15, ax_putI tX9_rules_16, ax_aload_n tX9_rules_19, ax_getR tX9_rules_20, ax_aload_n tX9_rules_23, ax_getI tX9_rules_24, ax_iconst tX9_rules_27, ax_iastore tX9_rules_28, ax_aload_n tX9_rules_29, ax_iconst tX9_rules_30, ax_putI tX9_rules_31, ax_aload_n tX9_rules_34, ax_getI tX9_rules_35, ax_if_ne tX9_rules_38, ax_aload_n tX9_rules_41, ax_getR tX9_rules_42, ax_aload_n tX9_rules_45, ax_getI tX9_rules_46, ax_iaload tX9_rules_49, ax_if_eq tX9_rules_50, ax_aload_n tX9_rules_53, ax_callV0 tX9_rules_54, ax_goto tX9_rules_57, ax_aload_n tX9_rules_60, ax_getI tX9_rules_61, ax_if_ne tX9_rules_64, ax_aload_n tX9_rules_67, ax_aload_n tX9_rules_68, ax_getI tX9_rules_69, ax_putI tX9_rules_72, ax_aload_n tX9_rules_75, ax_getI tX9_rules_76, ax_iretI tX9_rules_79, f_110, f_120, w0, wR, wK, wN, wI, wS, wA, wZ, wG, wJ, ru_0, ru_1, ru_2, ru_3, ru_4, ru_5, ru_6, ru_7, ru_8, ru_9, ru_10, ru_11, ru_12, ru_13, ru_14, ru_15, ru_16, ru_17, ru_18, ru_19, ru_20, ru_21, ru_22, ru_23, ru_24, ru_25, ru_26, ru_27, ru_28, ru_29, ru_30, ru_31, ru_32, ru_33, ru_34, ru_35, ru_36, ru_37, ru_38, ru_39, ru_40, ru_41, ru_42, ru_43, ru_44, ru_45, ru_46, ru_47, ru_48, ru_49, ru_50, ru_51, ru_52, ru_53, ru_54, ru_55, ru_56, ru_57, ru_58, ru_59, ru_60, ru_61, ru_62, ru_63, sc_2, sc_3, sc_7, sc_8, sc_15, sc_16, sc_17, sc_18, sc_24, sc_25, sc_27, sc_31, sc_36, sc_44, sc_46, sc_57, ir_1, rK_1, rN_1, ir_4, rK_4, rN_4, ir_5, rK_5, rN_5, ir_6, rK_6, rN_6, ir_9, rK_9, rN_9, ir_10, rK_10, rN_10, ir_11, rK_11, rN_11, ir_12, rK_12, rN_12, ir_13, rK_13, rN_13, ir_14, rK_14, rN_14, ir_19, rK_19, rN_19, ir_20, rK_20, rN_20, ir_21, rK_21, rN_21, ir_22, rK_22, rN_22, ir_23, rK_23, rN_23, ir_26, rK_26, rN_26, ir_28, rK_28, rN_28, ir_29, rK_29, rN_29, ir_30, rK_30, rN_30, ir_32, rK_32, rN_32, ir_33, rK_33, rN_33, ir_34, rK_34, rN_34, ir_35, rK_35, rN_35, ir_37, rK_37, rN_37, ir_38, rK_38, rN_38, ir_39, rK_39, rN_39, ir_40, rK_40, rN_40, ir_41, rK_41, rN_41, ir_42, rK_42, rN_42, ir_43, rK_43, rN_43, ir_45, rK_45, rN_45, ir_47, rK_47, rN_47, ir_48, rK_48, rN_48, ir_49, rK_49, rN_49, ir_50, rK_50, rN_50, ir_51, rK_51, rN_51, ir_52, rK_52, rN_52, ir_53, rK_53, rN_53, ir_54, rK_54, rN_54, ir_55, rK_55, rN_55, ir_56, rK_56, rN_56, ir_58, rK_58, rN_58, ir_59, rK_59, rN_59, ir_60, rK_60, rN_60, ir_61, rK_61, rN_61, ir_62, rK_62, rN_62, ir_63, rK_63, rN_63]
    simp only [e8, e16]
    refine ⟨fun c => absurd rfl c, fun _ => ?_⟩
    refine hq _ _ a3 (hr.I (k := 15) (1 - s 15)) f3.I ⟨fun k n1 n2 n3 n4 n5 n6 n7 n8 => ?_, ?_, k.2.2.1⟩ k.2.2.2 (LR_RLP (by omega) hj hl)
    · rw [va_up_eq, if_neg n5]
      exact (rk s3 a3 hl.1).1 k n1 n2 n3 n4 n5 n6 n7 n8
    · rw [va_up_eq, if_neg (by decide)]
      exact k.2.1
end REFZF
