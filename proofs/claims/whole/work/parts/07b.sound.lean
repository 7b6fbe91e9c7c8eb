/-! aw SUFFICES -/
set_option maxHeartbeats 4000000 in
theorem awS_sound {F : Nat → gM} {N : Nat} {B : gB} {m : gM} {d : Nat} {K : gKo} {Q : Option Value → gHp → Prop} {e : gE} {c n pc : Nat} {lv : List (Nat × Value)} {st : List Value} {h : gHp}
    (h0 : ∀ r, r < N → (gIx (F r)).1 = 0 → gVok (F r)) (h1 : ∀ r, r < N → (gIx (F r)).1 = 1 → gSok (F r)) (h2 : ∀ r, r < N → (gIx (F r)).1 = 2 → gIok (F r)) (ho : Cond.instanceMethod Lib.objectInit ∈ lw_good ∧ Cond.code Lib.objectInit ⟨#[0xb1]⟩ 1 none ∈ lw_good)
    (hok : okE F N m (pc, e) = true) (hK : ∀ c n pc lv st h, K c n pc lv st h → gG B m (d + 1) c n pc lv st h Q) (hs : awS F B m d K Q e c n pc lv st h) : gG B m (d + 1) c n pc lv st h Q := by
  obtain ⟨i, len, r1, r2, r3, ix⟩ := e
  simp only [okE, Bool.and_eq_true, decide_eq_true_eq] at hok
  obtain ⟨hdg, hi⟩ := hok
  cases i with
  | iconst v =>
    simp only [awS] at hs
    simp only [okI, Bool.and_eq_true, Bool.or_eq_true, beq_iff_eq, decide_eq_true_eq] at hi
    obtain ⟨hlen, hv⟩ := hi
    subst hlen
    exact gG_iconst hdg hv (hK _ _ _ _ _ _ hs)
  | bipush v =>
    simp only [awS] at hs
    simp only [okI, Bool.and_eq_true, Bool.or_eq_true, beq_iff_eq, decide_eq_true_eq] at hi
    obtain ⟨hlen, hv⟩ := hi
    subst hlen
    exact gG_bipush hdg hv (hK _ _ _ _ _ _ hs)
  | sipush v =>
    simp only [awS] at hs
    simp only [okI, Bool.and_eq_true, Bool.or_eq_true, beq_iff_eq, decide_eq_true_eq] at hi
    obtain ⟨hlen, hv⟩ := hi
    subst hlen
    exact gG_sipush hdg hv (hK _ _ _ _ _ _ hs)
  | ldc v =>
    simp only [awS] at hs
    simp only [okI, Bool.and_eq_true, Bool.or_eq_true, beq_iff_eq, decide_eq_true_eq] at hi
    obtain ⟨hlen, hw⟩ := hi
    subst hlen
    split at hs
    · exact hs.elim
    rename_i h7
    rcases hw with hw | hw
    · exact absurd hw h7
    simp only [okW, Bool.and_eq_true, decide_eq_true_eq] at hw
    exact gG_ldc hdg (gMem hw.1 hw.2) (hK _ _ _ _ _ _ hs)
  | ldc2_w v =>
    simp only [awS] at hs
    simp only [okI, Bool.and_eq_true, Bool.or_eq_true, beq_iff_eq, decide_eq_true_eq] at hi
    obtain ⟨hlen, hw⟩ := hi
    subst hlen
    simp only [okW, Bool.and_eq_true, decide_eq_true_eq] at hw
    exact gG_ldc2 hdg (gMem hw.1 hw.2) (hK _ _ _ _ _ _ hs)
  | lconst v =>
    simp only [awS] at hs
    simp only [okI, Bool.and_eq_true, Bool.or_eq_true, beq_iff_eq, decide_eq_true_eq] at hi
    obtain rfl := hi
    exact gG_lconst hdg rfl (hK _ _ _ _ _ _ hs)
  | aconst_null =>
    simp only [awS] at hs
    simp only [okI, Bool.and_eq_true, Bool.or_eq_true, beq_iff_eq, decide_eq_true_eq] at hi
    obtain rfl := hi
    exact gG_null hdg (hK _ _ _ _ _ _ hs)
  | iload_n v =>
    simp only [awS] at hs
    simp only [okI, Bool.and_eq_true, Bool.or_eq_true, beq_iff_eq, decide_eq_true_eq] at hi
    obtain rfl := hi
    unfold kLdI at hs
    split at hs
    · rename_i x hx
      exact gG_iload_n hdg hx (hK _ _ _ _ _ _ hs)
    · exact hs.elim
  | iload v =>
    simp only [awS] at hs
    simp only [okI, Bool.and_eq_true, Bool.or_eq_true, beq_iff_eq, decide_eq_true_eq] at hi
    obtain rfl := hi
    unfold kLdI at hs
    split at hs
    · rename_i x hx
      exact gG_iload hdg hx (hK _ _ _ _ _ _ hs)
    · exact hs.elim
  | lload_n v =>
    simp only [awS] at hs
    simp only [okI, Bool.and_eq_true, Bool.or_eq_true, beq_iff_eq, decide_eq_true_eq] at hi
    obtain rfl := hi
    unfold kLdL at hs
    split at hs
    · rename_i x hx
      exact gG_lload_n hdg hx (hK _ _ _ _ _ _ hs)
    · exact hs.elim
  | lload v =>
    simp only [awS] at hs
    simp only [okI, Bool.and_eq_true, Bool.or_eq_true, beq_iff_eq, decide_eq_true_eq] at hi
    obtain rfl := hi
    unfold kLdL at hs
    split at hs
    · rename_i x hx
      exact gG_lload hdg hx (hK _ _ _ _ _ _ hs)
    · exact hs.elim
  | aload_n v =>
    simp only [awS] at hs
    simp only [okI, Bool.and_eq_true, Bool.or_eq_true, beq_iff_eq, decide_eq_true_eq] at hi
    obtain rfl := hi
    unfold kLdR at hs
    split at hs
    · rename_i x hx
      exact gG_aload_nR hdg hx (hK _ _ _ _ _ _ hs)
    · rename_i hx
      exact gG_aload_nN hdg hx (hK _ _ _ _ _ _ hs)
    · exact hs.elim
  | aload v =>
    simp only [awS] at hs
    simp only [okI, Bool.and_eq_true, Bool.or_eq_true, beq_iff_eq, decide_eq_true_eq] at hi
    obtain rfl := hi
    unfold kLdR at hs
    split at hs
    · rename_i x hx
      exact gG_aloadR hdg hx (hK _ _ _ _ _ _ hs)
    · rename_i hx
      exact gG_aloadN hdg hx (hK _ _ _ _ _ _ hs)
    · exact hs.elim
  | istore_n v =>
    simp only [awS] at hs
    simp only [okI, Bool.and_eq_true, Bool.or_eq_true, beq_iff_eq, decide_eq_true_eq] at hi
    obtain ⟨hlen, hv⟩ := hi
    subst hlen
    unfold kI at hs
    split at hs
    · exact gG_istore_n hdg hv (hK _ _ _ _ _ _ hs)
    · exact hs.elim
  | istore v =>
    simp only [awS] at hs
    simp only [okI, Bool.and_eq_true, Bool.or_eq_true, beq_iff_eq, decide_eq_true_eq] at hi
    obtain ⟨hlen, hv⟩ := hi
    subst hlen
    unfold kI at hs
    split at hs
    · exact gG_istore hdg hv (hK _ _ _ _ _ _ hs)
    · exact hs.elim
  | lstore v =>
    simp only [awS] at hs
    simp only [okI, Bool.and_eq_true, Bool.or_eq_true, beq_iff_eq, decide_eq_true_eq] at hi
    obtain ⟨hlen, hv⟩ := hi
    subst hlen
    unfold kL at hs
    split at hs
    · exact gG_lstore hdg hv (hK _ _ _ _ _ _ hs)
    · exact hs.elim
  | astore_n v =>
    simp only [awS] at hs
    simp only [okI, Bool.and_eq_true, Bool.or_eq_true, beq_iff_eq, decide_eq_true_eq] at hi
    obtain ⟨hlen, hv⟩ := hi
    subst hlen
    unfold kV at hs
    split at hs
    · unfold kO at hs
      split at hs
      · exact gG_astore_nN hdg hv (hK _ _ _ _ _ _ hs)
      · exact gG_astore_nR hdg hv (hK _ _ _ _ _ _ hs)
      · exact hs.elim
    · exact hs.elim
  | astore v =>
    simp only [awS] at hs
    simp only [okI, Bool.and_eq_true, Bool.or_eq_true, beq_iff_eq, decide_eq_true_eq] at hi
    obtain ⟨hlen, hv⟩ := hi
    subst hlen
    unfold kV at hs
    split at hs
    · unfold kO at hs
      split at hs
      · exact gG_astoreN hdg hv (hK _ _ _ _ _ _ hs)
      · exact gG_astoreR hdg hv (hK _ _ _ _ _ _ hs)
      · exact hs.elim
    · exact hs.elim
  | iinc v w =>
    simp only [awS] at hs
    simp only [okI, Bool.and_eq_true, Bool.or_eq_true, beq_iff_eq, decide_eq_true_eq] at hi
    obtain ⟨⟨hlen, hv⟩, hv2⟩ := hi
    subst hlen
    unfold kLdI at hs
    split at hs
    · rename_i x hx
      exact gG_iinc hdg hx (by rw [hv2]) hv (hK _ _ _ _ _ _ hs)
    · exact hs.elim
  | iadd =>
    simp only [awS] at hs
    simp only [okI, Bool.and_eq_true, Bool.or_eq_true, beq_iff_eq, decide_eq_true_eq] at hi
    obtain rfl := hi
    unfold kII at hs
    split at hs
    · exact gG_iadd hdg (hK _ _ _ _ _ _ hs)
    · exact hs.elim
  | isub =>
    simp only [awS] at hs
    simp only [okI, Bool.and_eq_true, Bool.or_eq_true, beq_iff_eq, decide_eq_true_eq] at hi
    obtain rfl := hi
    unfold kII at hs
    split at hs
    · exact gG_isub hdg (hK _ _ _ _ _ _ hs)
    · exact hs.elim
  | imul =>
    simp only [awS] at hs
    simp only [okI, Bool.and_eq_true, Bool.or_eq_true, beq_iff_eq, decide_eq_true_eq] at hi
    obtain rfl := hi
    unfold kII at hs
    split at hs
    · exact gG_imul hdg (hK _ _ _ _ _ _ hs)
    · exact hs.elim
  | iand =>
    simp only [awS] at hs
    simp only [okI, Bool.and_eq_true, Bool.or_eq_true, beq_iff_eq, decide_eq_true_eq] at hi
    obtain rfl := hi
    unfold kII at hs
    split at hs
    · exact gG_iand hdg (hK _ _ _ _ _ _ hs)
    · exact hs.elim
  | ior =>
    simp only [awS] at hs
    simp only [okI, Bool.and_eq_true, Bool.or_eq_true, beq_iff_eq, decide_eq_true_eq] at hi
    obtain rfl := hi
    unfold kII at hs
    split at hs
    · exact gG_ior hdg (hK _ _ _ _ _ _ hs)
    · exact hs.elim
  | ixor =>
    simp only [awS] at hs
    simp only [okI, Bool.and_eq_true, Bool.or_eq_true, beq_iff_eq, decide_eq_true_eq] at hi
    obtain rfl := hi
    unfold kII at hs
    split at hs
    · exact gG_ixor hdg (hK _ _ _ _ _ _ hs)
    · exact hs.elim
  | ishl =>
    simp only [awS] at hs
    simp only [okI, Bool.and_eq_true, Bool.or_eq_true, beq_iff_eq, decide_eq_true_eq] at hi
    obtain rfl := hi
    unfold kII at hs
    split at hs
    · exact gG_ishl hdg (hK _ _ _ _ _ _ hs)
    · exact hs.elim
  | ishr =>
    simp only [awS] at hs
    simp only [okI, Bool.and_eq_true, Bool.or_eq_true, beq_iff_eq, decide_eq_true_eq] at hi
    obtain rfl := hi
    unfold kII at hs
    split at hs
    · exact gG_ishr hdg (hK _ _ _ _ _ _ hs)
    · exact hs.elim
  | iushr =>
    simp only [awS] at hs
    simp only [okI, Bool.and_eq_true, Bool.or_eq_true, beq_iff_eq, decide_eq_true_eq] at hi
    obtain rfl := hi
    unfold kII at hs
    split at hs
    · exact gG_iushr hdg (hK _ _ _ _ _ _ hs)
    · exact hs.elim
  | irem =>
    simp only [awS] at hs
    simp only [okI, Bool.and_eq_true, Bool.or_eq_true, beq_iff_eq, decide_eq_true_eq] at hi
    obtain rfl := hi
    unfold kII at hs
    split at hs
    · exact gG_irem hdg hs.1 (hK _ _ _ _ _ _ hs.2)
    · exact hs.elim
  | ladd =>
    simp only [awS] at hs
    simp only [okI, Bool.and_eq_true, Bool.or_eq_true, beq_iff_eq, decide_eq_true_eq] at hi
    obtain rfl := hi
    unfold kLL at hs
    split at hs
    · exact gG_ladd hdg (hK _ _ _ _ _ _ hs)
    · exact hs.elim
  | lsub =>
    simp only [awS] at hs
    simp only [okI, Bool.and_eq_true, Bool.or_eq_true, beq_iff_eq, decide_eq_true_eq] at hi
    obtain rfl := hi
    unfold kLL at hs
    split at hs
    · exact gG_lsub hdg (hK _ _ _ _ _ _ hs)
    · exact hs.elim
  | lmul =>
    simp only [awS] at hs
    simp only [okI, Bool.and_eq_true, Bool.or_eq_true, beq_iff_eq, decide_eq_true_eq] at hi
    obtain rfl := hi
    unfold kLL at hs
    split at hs
    · exact gG_lmul hdg (hK _ _ _ _ _ _ hs)
    · exact hs.elim
  | land =>
    simp only [awS] at hs
    simp only [okI, Bool.and_eq_true, Bool.or_eq_true, beq_iff_eq, decide_eq_true_eq] at hi
    obtain rfl := hi
    unfold kLL at hs
    split at hs
    · exact gG_land hdg (hK _ _ _ _ _ _ hs)
    · exact hs.elim
  | lor =>
    simp only [awS] at hs
    simp only [okI, Bool.and_eq_true, Bool.or_eq_true, beq_iff_eq, decide_eq_true_eq] at hi
    obtain rfl := hi
    unfold kLL at hs
    split at hs
    · exact gG_lor hdg (hK _ _ _ _ _ _ hs)
    · exact hs.elim
  | lcmp =>
    simp only [awS] at hs
    simp only [okI, Bool.and_eq_true, Bool.or_eq_true, beq_iff_eq, decide_eq_true_eq] at hi
    obtain rfl := hi
    unfold kLL at hs
    split at hs
    · exact gG_lcmp hdg (hK _ _ _ _ _ _ hs)
    · exact hs.elim
  | lshl =>
    simp only [awS] at hs
    simp only [okI, Bool.and_eq_true, Bool.or_eq_true, beq_iff_eq, decide_eq_true_eq] at hi
    obtain rfl := hi
    unfold kIL at hs
    split at hs
    · exact gG_lshl hdg (hK _ _ _ _ _ _ hs)
    · exact hs.elim
  | lshr =>
    simp only [awS] at hs
    simp only [okI, Bool.and_eq_true, Bool.or_eq_true, beq_iff_eq, decide_eq_true_eq] at hi
    obtain rfl := hi
    unfold kIL at hs
    split at hs
    · exact gG_lshr hdg (hK _ _ _ _ _ _ hs)
    · exact hs.elim
  | lushr =>
    simp only [awS] at hs
    simp only [okI, Bool.and_eq_true, Bool.or_eq_true, beq_iff_eq, decide_eq_true_eq] at hi
    obtain rfl := hi
    unfold kIL at hs
    split at hs
    · exact gG_lushr hdg (hK _ _ _ _ _ _ hs)
    · exact hs.elim
  | i2l =>
    simp only [awS] at hs
    simp only [okI, Bool.and_eq_true, Bool.or_eq_true, beq_iff_eq, decide_eq_true_eq] at hi
    obtain rfl := hi
    unfold kI at hs
    split at hs
    · exact gG_i2l hdg (hK _ _ _ _ _ _ hs)
    · exact hs.elim
  | l2i =>
    simp only [awS] at hs
    simp only [okI, Bool.and_eq_true, Bool.or_eq_true, beq_iff_eq, decide_eq_true_eq] at hi
    obtain rfl := hi
    unfold kL at hs
    split at hs
    · exact gG_l2i hdg (hK _ _ _ _ _ _ hs)
    · exact hs.elim
  | i2c =>
    simp only [awS] at hs
    simp only [okI, Bool.and_eq_true, Bool.or_eq_true, beq_iff_eq, decide_eq_true_eq] at hi
    obtain rfl := hi
    unfold kI at hs
    split at hs
    · exact gG_i2c hdg (hK _ _ _ _ _ _ hs)
    · exact hs.elim
  | dup =>
    simp only [awS] at hs
    simp only [okI, Bool.and_eq_true, Bool.or_eq_true, beq_iff_eq, decide_eq_true_eq] at hi
    obtain rfl := hi
    unfold kV at hs
    split at hs
    · exact gG_dup hdg hs.1 (hK _ _ _ _ _ _ hs.2)
    · exact hs.elim
  | pop =>
    simp only [awS] at hs
    simp only [okI, Bool.and_eq_true, Bool.or_eq_true, beq_iff_eq, decide_eq_true_eq] at hi
    obtain rfl := hi
    unfold kV at hs
    split at hs
    · exact gG_pop hdg hs.1 (hK _ _ _ _ _ _ hs.2)
    · exact hs.elim
  | dup_x1 =>
    simp only [awS] at hs
    simp only [okI, Bool.and_eq_true, Bool.or_eq_true, beq_iff_eq, decide_eq_true_eq] at hi
    obtain rfl := hi
    unfold kVV at hs
    split at hs
    · exact gG_dup_x1 hdg hs.1 hs.2.1 (hK _ _ _ _ _ _ hs.2.2)
    · exact hs.elim
  | dup2 =>
    simp only [awS] at hs
    simp only [okI, Bool.and_eq_true, Bool.or_eq_true, beq_iff_eq, decide_eq_true_eq] at hi
    obtain rfl := hi
    unfold kVV at hs
    split at hs
    · exact gG_dup2 hdg hs.1 hs.2.1 (hK _ _ _ _ _ _ hs.2.2)
    · exact hs.elim
  | goto off =>
    simp only [awS] at hs
    simp only [okI, Bool.and_eq_true, Bool.or_eq_true, beq_iff_eq, decide_eq_true_eq] at hi
    obtain ⟨hlen, ht⟩ := hi
    subst hlen
    exact gG_goto hdg ht (hK _ _ _ _ _ _ hs)
  | ifCond k off =>
    simp only [awS] at hs
    simp only [okI, Bool.and_eq_true, Bool.or_eq_true, beq_iff_eq, decide_eq_true_eq] at hi
    obtain ⟨hlen, ht⟩ := hi
    subst hlen
    unfold kI at hs
    split at hs
    · cases k with
      | eq => simp only [cmpZ] at hs; exact gG_if_eq hdg ht (fun z => hK _ _ _ _ _ _ (hs.1 z)) (fun z => hK _ _ _ _ _ _ (hs.2 z))
      | ne => simp only [cmpZ] at hs; exact gG_if_ne hdg ht (fun z => hK _ _ _ _ _ _ (hs.1 z)) (fun z => hK _ _ _ _ _ _ (hs.2 z))
      | lt => simp only [cmpZ] at hs; exact gG_if_lt hdg ht (fun z => hK _ _ _ _ _ _ (hs.1 z)) (fun z => hK _ _ _ _ _ _ (hs.2 z))
      | ge => simp only [cmpZ] at hs; exact gG_if_ge hdg ht (fun z => hK _ _ _ _ _ _ (hs.1 z)) (fun z => hK _ _ _ _ _ _ (hs.2 z))
      | gt => simp only [cmpZ] at hs; exact gG_if_gt hdg ht (fun z => hK _ _ _ _ _ _ (hs.1 z)) (fun z => hK _ _ _ _ _ _ (hs.2 z))
      | le => simp only [cmpZ] at hs; exact gG_if_le hdg ht (fun z => hK _ _ _ _ _ _ (hs.1 z)) (fun z => hK _ _ _ _ _ _ (hs.2 z))
    · exact hs.elim
  | if_icmp k off =>
    simp only [awS] at hs
    simp only [okI, Bool.and_eq_true, Bool.or_eq_true, beq_iff_eq, decide_eq_true_eq] at hi
    obtain ⟨hlen, ht⟩ := hi
    subst hlen
    unfold kII at hs
    split at hs
    · cases k with
      | eq => simp only [cmpI] at hs; exact gG_icmp_eq hdg ht (fun z => hK _ _ _ _ _ _ (hs.1 z)) (fun z => hK _ _ _ _ _ _ (hs.2 z))
      | ne => simp only [cmpI] at hs; exact gG_icmp_ne hdg ht (fun z => hK _ _ _ _ _ _ (hs.1 z)) (fun z => hK _ _ _ _ _ _ (hs.2 z))
      | lt => simp only [cmpI] at hs; exact gG_icmp_lt hdg ht (fun z => hK _ _ _ _ _ _ (hs.1 z)) (fun z => hK _ _ _ _ _ _ (hs.2 z))
      | ge => simp only [cmpI] at hs; exact gG_icmp_ge hdg ht (fun z => hK _ _ _ _ _ _ (hs.1 z)) (fun z => hK _ _ _ _ _ _ (hs.2 z))
      | gt => simp only [cmpI] at hs; exact gG_icmp_gt hdg ht (fun z => hK _ _ _ _ _ _ (hs.1 z)) (fun z => hK _ _ _ _ _ _ (hs.2 z))
      | le => simp only [cmpI] at hs; exact gG_icmp_le hdg ht (fun z => hK _ _ _ _ _ _ (hs.1 z)) (fun z => hK _ _ _ _ _ _ (hs.2 z))
    · exact hs.elim
  | ifnull off =>
    simp only [awS] at hs
    simp only [okI, Bool.and_eq_true, Bool.or_eq_true, beq_iff_eq, decide_eq_true_eq] at hi
    obtain ⟨hlen, ht⟩ := hi
    subst hlen
    unfold kN at hs
    split at hs
    · exact gG_ifnullN hdg ht (hK _ _ _ _ _ _ (by simpa using hs))
    · exact gG_ifnullR hdg (hK _ _ _ _ _ _ (by simpa using hs))
    · exact hs.elim
  | ifnonnull off =>
    simp only [awS] at hs
    simp only [okI, Bool.and_eq_true, Bool.or_eq_true, beq_iff_eq, decide_eq_true_eq] at hi
    obtain ⟨hlen, ht⟩ := hi
    subst hlen
    unfold kN at hs
    split at hs
    · exact gG_ifnonnullN hdg (hK _ _ _ _ _ _ (by simpa using hs))
    · exact gG_ifnonnullR hdg ht (hK _ _ _ _ _ _ (by simpa using hs))
    · exact hs.elim
  | getfield idx =>
    simp only [awS] at hs
    simp only [okI, Bool.and_eq_true, Bool.or_eq_true, beq_iff_eq, decide_eq_true_eq] at hi
    obtain ⟨⟨hlen, hF⟩, hT⟩ := hi
    subst hlen
    unfold okF at hF
    unfold okT at hT
    split at hF
    rotate_left
    · cases hF
    rename_i q hq
    rw [hq] at hT
    simp only [Bool.and_eq_true, decide_eq_true_eq] at hF
    obtain ⟨⟨⟨⟨f1, f2⟩, f3⟩, f4⟩, f5⟩ := hF
    unfold kR at hs
    split at hs
    rotate_left
    · exact hs.elim
    refine gG_get hdg hq f1 f2 f3 (gMem f4 f5) hs.1 (hK _ _ _ _ _ _ ?_)
    have hs2 := hs.2
    unfold gFv
    dsimp only at hT
    split at hT <;> (try simp only [Bool.and_eq_true, beq_iff_eq, Bool.not_eq_true'] at hT)
    · obtain ⟨t1, t2⟩ := hT; subst t1; simpa [t2] using hs2
    · obtain ⟨t1, t2⟩ := hT; subst t1; simpa [t2] using hs2
    · obtain ⟨t1, t2⟩ := hT; subst t1; simpa [t2] using hs2
    · obtain ⟨t1, t2⟩ := hT; subst t1; simpa [t2] using hs2
    · cases hT
  | putfield idx =>
    simp only [awS] at hs
    simp only [okI, Bool.and_eq_true, Bool.or_eq_true, beq_iff_eq, decide_eq_true_eq] at hi
    obtain ⟨⟨⟨hlen, hF⟩, hT⟩, hP⟩ := hi
    subst hlen
    unfold okF at hF
    unfold okT at hT
    split at hF
    rotate_left
    · cases hF
    rename_i q hq
    rw [hq] at hT
    simp only [Bool.and_eq_true, decide_eq_true_eq] at hF
    obtain ⟨⟨⟨⟨f1, f2⟩, f3⟩, f4⟩, f5⟩ := hF
    unfold okP at hP
    rw [hq] at hP
    dsimp only at hP hT
    have hp : (q.2.1 r2).2.2.2 = false ∨ ((q.2.1 r2).2.2.2 = true ∧ (gY m).name = "<init>" ∧ (q.2.1 r2).1 = (gY m).cls) := by
      cases hf : (q.2.1 r2).2.2.2 with
      | false => exact Or.inl rfl
      | true => rw [hf] at hP; simp only [Bool.not_true, Bool.false_or, Bool.and_eq_true, decide_eq_true_eq] at hP; exact Or.inr ⟨rfl, hP.1, hP.2⟩
    unfold kVR at hs
    split at hs
    rotate_left
    · exact hs.elim
    rename_i w a r
    obtain ⟨ha, hs⟩ := hs
    split at hT <;> (try simp only [Bool.and_eq_true, beq_iff_eq, Bool.not_eq_true'] at hT)
    · rename_i hty; obtain ⟨t1, t2⟩ := hT; subst t1
      simp only [show ¬ ((0 : Nat) = 2) by decide, if_false, kI] at hs
      split at hs
      · rename_i heq; cases heq; exact gG_put (h' := sI h r1 r2 a _) hdg hq f1 f2 f3 (gMem f4 f5) hp hty rfl rfl ha rfl (fun kA => gCell_sI ha f3 t2) (hK _ _ _ _ _ _ hs.2)
      · exact hs.elim
    · rename_i hty; obtain ⟨t1, t2⟩ := hT; subst t1
      simp only [show ¬ ((1 : Nat) = 2) by decide, if_false, kI] at hs
      split at hs
      · rename_i heq; cases heq
        have hb := hs.1
        simp only [rOk, show ¬ ((1 : Nat) = 0) by decide, false_or, true_and] at hb
        exact gG_put (h' := sI h r1 r2 a _) hdg hq f1 f2 f3 (gMem f4 f5) hp hty (by rcases hb with rfl | rfl <;> rfl) (by rcases hb with rfl | rfl <;> rfl) ha rfl (fun kA => gCell_sI ha f3 t2) (hK _ _ _ _ _ _ hs.2)
      · exact hs.elim
    · rename_i hty; obtain ⟨t1, t2⟩ := hT; subst t1
      simp only [if_true, kO] at hs
      split at hs
      · exact gG_put (h' := sR h r1 r2 a none) hdg hq f1 f2 f3 (gMem f4 f5) hp hty rfl rfl ha rfl (fun kA => gCell_sR (v := none) ha f3 t2) (hK _ _ _ _ _ _ hs)
      · rename_i b; exact gG_put (h' := sR h r1 r2 a (some b)) hdg hq f1 f2 f3 (gMem f4 f5) hp hty rfl rfl ha rfl (fun kA => gCell_sR (v := some b) ha f3 t2) (hK _ _ _ _ _ _ hs)
      · exact hs.elim
    · rename_i hty; obtain ⟨t1, t2⟩ := hT; subst t1
      simp only [if_true, kO] at hs
      split at hs
      · exact gG_put (h' := sR h r1 r2 a none) hdg hq f1 f2 f3 (gMem f4 f5) hp hty rfl rfl ha rfl (fun kA => gCell_sR (v := none) ha f3 t2) (hK _ _ _ _ _ _ hs)
      · rename_i b; exact gG_put (h' := sR h r1 r2 a (some b)) hdg hq f1 f2 f3 (gMem f4 f5) hp hty rfl rfl ha rfl (fun kA => gCell_sR (v := some b) ha f3 t2) (hK _ _ _ _ _ _ hs)
      · exact hs.elim
    · cases hT
  | iaload =>
    simp only [awS] at hs
    simp only [okI, Bool.and_eq_true, Bool.or_eq_true, beq_iff_eq, decide_eq_true_eq] at hi
    obtain ⟨hlen, ht⟩ := hi
    subst hlen
    unfold kIR at hs
    split at hs
    · exact gG_iald hdg ht hs.1 hs.2.1 (hK _ _ _ _ _ _ hs.2.2)
    · exact hs.elim
  | baload =>
    simp only [awS] at hs
    simp only [okI, Bool.and_eq_true, Bool.or_eq_true, beq_iff_eq, decide_eq_true_eq] at hi
    obtain ⟨hlen, ht⟩ := hi
    subst hlen
    unfold kIR at hs
    split at hs
    · exact gG_zald hdg ht hs.1 hs.2.1 (hK _ _ _ _ _ _ hs.2.2)
    · exact hs.elim
  | caload =>
    simp only [awS] at hs
    simp only [okI, Bool.and_eq_true, Bool.or_eq_true, beq_iff_eq, decide_eq_true_eq] at hi
    obtain ⟨hlen, ht⟩ := hi
    subst hlen
    unfold kIR at hs
    split at hs
    · exact gG_cald hdg ht hs.1 hs.2.1 (hK _ _ _ _ _ _ hs.2.2)
    · exact hs.elim
  | laload =>
    simp only [awS] at hs
    simp only [okI, Bool.and_eq_true, Bool.or_eq_true, beq_iff_eq, decide_eq_true_eq] at hi
    obtain ⟨hlen, ht⟩ := hi
    subst hlen
    unfold kIR at hs
    split at hs
    · exact gG_lald hdg ht hs.1 hs.2.1 (hK _ _ _ _ _ _ hs.2.2)
    · exact hs.elim
  | aaload =>
    simp only [awS] at hs
    simp only [okI, Bool.and_eq_true, Bool.or_eq_true, beq_iff_eq, decide_eq_true_eq] at hi
    obtain rfl := hi
    unfold kIR at hs
    split at hs
    · exact gG_aald hdg hs.1 hs.2.1 (hK _ _ _ _ _ _ hs.2.2)
    · exact hs.elim
  | iastore =>
    simp only [awS] at hs
    simp only [okI, Bool.and_eq_true, Bool.or_eq_true, beq_iff_eq, decide_eq_true_eq] at hi
    obtain ⟨hlen, ht⟩ := hi
    subst hlen
    unfold kIIR at hs
    split at hs
    · exact gG_iast hdg ht hs.1 hs.2.1 (hK _ _ _ _ _ _ hs.2.2)
    · exact hs.elim
  | bastore =>
    simp only [awS] at hs
    simp only [okI, Bool.and_eq_true, Bool.or_eq_true, beq_iff_eq, decide_eq_true_eq] at hi
    obtain ⟨hlen, ht⟩ := hi
    subst hlen
    unfold kIIR at hs
    split at hs
    · rename_i x i a r
      have hx : vp_nar .boolean x = x := by rcases hs.2.2.1 with rfl | rfl <;> rfl
      refine gG_zast hdg ht hs.1 hs.2.1 ?_
      rw [hx]
      exact hK _ _ _ _ _ _ hs.2.2.2
    · exact hs.elim
  | castore =>
    simp only [awS] at hs
    simp only [okI, Bool.and_eq_true, Bool.or_eq_true, beq_iff_eq, decide_eq_true_eq] at hi
    obtain ⟨hlen, ht⟩ := hi
    subst hlen
    unfold kIIR at hs
    split at hs
    · exact gG_cast hdg ht hs.1 hs.2.1 (hK _ _ _ _ _ _ hs.2.2)
    · exact hs.elim
  | lastore =>
    simp only [awS] at hs
    simp only [okI, Bool.and_eq_true, Bool.or_eq_true, beq_iff_eq, decide_eq_true_eq] at hi
    obtain ⟨hlen, ht⟩ := hi
    subst hlen
    unfold kLIR at hs
    split at hs
    · exact gG_last hdg ht hs.1 hs.2.1 (hK _ _ _ _ _ _ hs.2.2)
    · exact hs.elim
  | arraylength =>
    simp only [awS] at hs
    simp only [okI, Bool.and_eq_true, Bool.or_eq_true, beq_iff_eq, decide_eq_true_eq] at hi
    obtain ⟨hlen, ht⟩ := hi
    subst hlen
    unfold kR at hs
    split at hs
    · exact gG_alen hdg (by omega) hs.1 (hK _ _ _ _ _ _ hs.2)
    · exact hs.elim
  | checkcast idx =>
    simp only [awS] at hs
    simp only [okI, Bool.and_eq_true, Bool.or_eq_true, beq_iff_eq, decide_eq_true_eq] at hi
    obtain ⟨⟨hlen, hc⟩, hq⟩ := hi
    subst hlen
    split at hq
    rotate_left
    · cases hq
    rename_i q hcl
    simp only [okW, Bool.and_eq_true, decide_eq_true_eq] at hq
    unfold kR at hs
    split at hs
    · exact gG_ckc hdg hcl hc (gMem hq.1 hq.2) hs.1 (hK _ _ _ _ _ _ hs.2)
    · exact hs.elim
  | newarray ty =>
    simp only [awS] at hs
    simp only [okI, Bool.and_eq_true, Bool.or_eq_true, beq_iff_eq, decide_eq_true_eq] at hi
    obtain ⟨⟨hlen, hw⟩, hk⟩ := hi
    subst hlen
    simp only [okW, Bool.and_eq_true, decide_eq_true_eq] at hw
    unfold kI at hs
    split at hs
    rotate_left
    · exact hs.elim
    rename_i x r
    obtain ⟨g1, g2, g3, g4, g5⟩ := hs
    obtain ⟨c0, rfl⟩ : ∃ c0, c = c0 + 1 := ⟨c - 1, by omega⟩
    obtain ⟨n0, rfl⟩ : ∃ n0, n = n0 + x.toNatClampNeg := ⟨n - x.toNatClampNeg, by omega⟩
    simp only [Nat.add_sub_cancel] at g5
    cases ty with
    | int => simp only [Bool.or_eq_true, beq_iff_eq] at hk; exact gG_newI hdg hk (gMem hw.1 hw.2) g1 rfl g2 (fun a ha => hK _ _ _ _ _ _ (g5 a ha))
    | boolean => simp only [Bool.or_eq_true, beq_iff_eq] at hk; exact gG_newZ hdg hk (gMem hw.1 hw.2) g1 rfl g2 (fun a ha => hK _ _ _ _ _ _ (g5 a ha))
    | char => simp only [Bool.or_eq_true, beq_iff_eq] at hk; exact gG_newC hdg hk (gMem hw.1 hw.2) g1 rfl g2 (fun a ha => hK _ _ _ _ _ _ (g5 a ha))
    | long => simp only [Bool.or_eq_true, beq_iff_eq] at hk; exact gG_newJ hdg hk (gMem hw.1 hw.2) g1 rfl g2 (fun a ha => hK _ _ _ _ _ _ (g5 a ha))
    | _ => simp at hk
  | new idx =>
    simp only [awS] at hs
    simp only [okI, Bool.and_eq_true, Bool.or_eq_true, beq_iff_eq, decide_eq_true_eq] at hi
    obtain ⟨⟨⟨hlen, hc⟩, hb⟩, hq⟩ := hi
    subst hlen
    split at hq
    rotate_left
    · cases hq
    rename_i q hcl
    simp only [okW, Bool.and_eq_true, decide_eq_true_eq] at hq
    obtain ⟨⟨⟨⟨⟨w1, w2⟩, w3⟩, w4⟩, w5⟩, w6⟩ := hq
    obtain ⟨g1, g2, g3⟩ := hs
    try dsimp only at g2 g3
    rw [w6] at g2 g3
    obtain ⟨c0, rfl⟩ : ∃ c0, c = c0 + 1 := ⟨c - 1, by omega⟩
    obtain ⟨n0, rfl⟩ : ∃ n0, n = n0 + q.2.2 := ⟨n - q.2.2, by omega⟩
    simp only [Nat.add_sub_cancel] at g3
    refine gG_new hdg hcl hc ?_ (gMem w1.1 w1.2) (List.mem_filter.mpr ⟨w2, w3⟩) (List.mem_filter.mpr ⟨w4, w5⟩) (fun a ha => hK _ _ _ _ _ _ (g3 a ha))
    intro ty hty j hj
    unfold okB at hb
    rw [hcl] at hb
    dsimp only at hb
    have := List.all_eq_true.mp hb j (List.mem_range.mpr hj)
    rw [hty j hj] at this
    simpa using this
  | invokevirtual idx =>
    simp only [awS] at hs
    simp only [okI, Bool.and_eq_true, Bool.or_eq_true, beq_iff_eq, decide_eq_true_eq] at hi
    obtain ⟨⟨⟨⟨⟨⟨hlen, hr⟩, hk0⟩, hnp⟩, hc⟩, hw⟩, hq⟩ := hi
    subst hlen
    simp only [okW, Bool.and_eq_true, decide_eq_true_eq] at hw
    split at hq
    rotate_left
    · cases hq
    rename_i q hcl
    simp only [decide_eq_true_eq] at hq
    try dsimp only at hr hk0 hnp hw hc hcl
    unfold kCall at hs
    split at hs
    · rename_i b r hdr
      have hst : st = ((st.take r2).reverse).reverse ++ .ref b :: r := by rw [List.reverse_reverse, ← hdr, List.take_append_drop]
      have hlen2 : r2 ≤ st.length := by
        have := congrArg List.length hdr
        simp only [List.length_drop, List.length_cons] at this
        omega
      rw [hst]
      have K1 := gG_callV (B := B) (m := m) (d := d + 1) (c := c) (n := n) (c1 := 0) (n1 := 0) (lv := lv) (Q := Q) (h0 r1 hr hk0) hdg (gMem hw.1 hw.2) hcl hc hq hs.1 (by rw [List.length_reverse, List.length_take]; omega) hs.2.1 (Nat.le_refl _) (gFn_mono (fun v h' z => hK _ _ _ _ _ _ z) hs.2.2)
      simp only [Nat.zero_add] at K1
      exact K1
    · exact hs.elim
  | invokespecial idx =>
    simp only [awS] at hs
    simp only [okI, Bool.and_eq_true, Bool.or_eq_true, beq_iff_eq, decide_eq_true_eq] at hi
    obtain ⟨hlen, hq⟩ := hi
    subst hlen
    try dsimp only at hq hs
    by_cases h98 : r1 = 9998
    · rw [if_pos h98] at hs; exact hs.elim
    rw [if_neg h98] at hs hq
    split at hq
    · rename_i h9
      simp only [okW, Bool.and_eq_true, decide_eq_true_eq] at hq
      rw [if_pos h9] at hs
      unfold kR at hs
      split at hs
      · exact gG_objInit hdg (gMem hq.1 hq.2) ho.1 ho.2 hs.1 (hK _ _ _ _ _ _ hs.2)
      · exact hs.elim
    · rename_i h9
      simp only [okW, Bool.and_eq_true, decide_eq_true_eq] at hq
      obtain ⟨⟨⟨hr, hk0⟩, hnp⟩, hw⟩ := hq
      rw [if_neg h9] at hs
      unfold kCall at hs
      split at hs
      · rename_i b r hdr
        have hst : st = ((st.take r2).reverse).reverse ++ .ref b :: r := by rw [List.reverse_reverse, ← hdr, List.take_append_drop]
        have hlen2 : r2 ≤ st.length := by
          have := congrArg List.length hdr
          simp only [List.length_drop, List.length_cons] at this
          omega
        rw [hst]
        have K1 := gG_callI (B := B) (m := m) (d := d + 1) (c := c) (n := n) (c1 := 0) (n1 := 0) (lv := lv) (Q := Q) (h2 r1 hr hk0) hdg (gMem hw.1 hw.2) (by rw [List.length_reverse, List.length_take]; omega) hs.1 (Nat.le_refl _) (gFn_mono (fun v h' z => hK _ _ _ _ _ _ z) hs.2)
        simp only [Nat.zero_add] at K1
        exact K1
      · exact hs.elim
  | invokestatic idx =>
    simp only [awS] at hs
    simp only [okI, Bool.and_eq_true, Bool.or_eq_true, beq_iff_eq, decide_eq_true_eq] at hi
    obtain ⟨⟨⟨⟨hlen, hr⟩, hk0⟩, hnp⟩, hw⟩ := hi
    subst hlen
    simp only [okW, Bool.and_eq_true, decide_eq_true_eq] at hw
    try dsimp only at hr hk0 hnp hw
    unfold kS at hs
    obtain ⟨hs, hlen2⟩ := hs
    try dsimp only at hlen2 hs
    have hst : st = ((st.take r2).reverse).reverse ++ st.drop r2 := by rw [List.reverse_reverse, List.take_append_drop]
    rw [hst]
    have K1 := gG_callS (B := B) (m := m) (d := d + 1) (c := c) (n := n) (c1 := 0) (n1 := 0) (lv := lv) (Q := Q) (h1 r1 hr hk0) hdg (gMem hw.1 hw.2) (by rw [List.length_reverse, List.length_take]; omega) hs.1 (Nat.le_refl _) (gFn_mono (fun v h' z => hK _ _ _ _ _ _ z) hs.2)
    simp only [Nat.zero_add] at K1
    exact K1
  | ireturn =>
    simp only [awS] at hs
    simp only [okI, Bool.and_eq_true, Bool.or_eq_true, beq_iff_eq, decide_eq_true_eq] at hi
    obtain ⟨hlen, hr⟩ := hi
    subst hlen
    split at hs
    rotate_left
    · exact hs.elim
    rename_i v
    obtain ⟨hv, hq⟩ := hs
    rcases hr with ⟨q1, q2⟩ | ⟨q1, q2⟩
    · exact gG_iret hdg q2 rfl hq
    · subst q1
      simp only [rOk, show ¬ ((1 : Nat) = 0) by decide, false_or, true_and] at hv
      exact gG_iret hdg q2 (by rcases hv with rfl | rfl <;> rfl) hq
  | areturn =>
    simp only [awS] at hs
    simp only [okI, Bool.and_eq_true, Bool.or_eq_true, beq_iff_eq, decide_eq_true_eq] at hi
    obtain ⟨hlen, hr⟩ := hi
    subst hlen
    split at hs
    rotate_left
    · exact hs.elim
    unfold kO at hs
    split at hr
    · rename_i hh
      split at hs
      · exact gG_aret hdg hh (Or.inl ⟨_, rfl⟩) (Or.inl rfl) hs
      · exact gG_aret hdg hh (Or.inl ⟨_, rfl⟩) (Or.inr ⟨_, rfl⟩) hs
      · exact hs.elim
    · rename_i hh
      split at hs
      · exact gG_aret hdg hh (Or.inr ⟨_, rfl⟩) (Or.inl rfl) hs
      · exact gG_aret hdg hh (Or.inr ⟨_, rfl⟩) (Or.inr ⟨_, rfl⟩) hs
      · exact hs.elim
    · cases hr
  | return_ =>
    simp only [awS] at hs
    simp only [okI, Bool.and_eq_true, Bool.or_eq_true, beq_iff_eq, decide_eq_true_eq] at hi
    obtain ⟨hlen, hr⟩ := hi
    subst hlen
    obtain ⟨rfl, hq⟩ := hs
    exact gG_vret hdg hr hq
  | _ => exact (show False from hs).elim
theorem lookup_mem {α : Type} {l : List (Nat × α)} {i : Nat} {v : α} (h : l.lookup i = some v) : (i, v) ∈ l := by
  induction l with
  | nil => cases h
  | cons q l ih =>
    obtain ⟨k, w⟩ := q
    rw [List.lookup_cons] at h
    split at h
    · rename_i e; rw [beq_iff_eq] at e; cases h; subst e; exact List.mem_cons_self
    · exact List.mem_cons_of_mem _ (ih h)
theorem aw_sound {F : Nat → gM} {N : Nat} {B : gB} {m : gM} {d : Nat} {cut : List (Nat × List Nat)} {Q : Option Value → gHp → Prop}
    (h0 : ∀ r, r < N → (gIx (F r)).1 = 0 → gVok (F r)) (h1 : ∀ r, r < N → (gIx (F r)).1 = 1 → gSok (F r)) (h2 : ∀ r, r < N → (gIx (F r)).1 = 2 → gIok (F r)) (ho : Cond.instanceMethod Lib.objectInit ∈ lw_good ∧ Cond.code Lib.objectInit ⟨#[0xb1]⟩ 1 none ∈ lw_good)
    (hok : (gTb m).all (okE F N m) = true) (k : Nat) : ∀ {c n pc : Nat} {lv : List (Nat × Value)} {st : List Value} {h : gHp}, aw F B m d cut Q k c n pc lv st h → gG B m (d + 1) c n pc lv st h Q := by
  induction k with
  | zero => intro c n pc lv st h hs; exact hs
  | succ k ih =>
    intro c n pc lv st h hs
    unfold aw at hs
    split at hs
    · exact hs.elim
    · rename_i e he
      refine awS_sound h0 h1 h2 ho (List.all_eq_true.mp hok _ (lookup_mem he)) ?_ hs
      intro c n pc lv st h hz
      split at hz
      · exact gG_sub (fun q hq => (List.mem_filter.mp hq).1) hz
      · exact ih hz
