/-! the search of the class -/
/-- what stands of a state: words, places, limit; letters, stand-ins, telegram, joined, the cheapest's joined -/
def Iv (nw nl lm : Nat) (a3 a9 a4 : Int32) (L S Tg Jd Cj : Nat → Int32) : Prop :=
  a3 = nI nw ∧ a9 = nI nl ∧ a4 = nI lm ∧ nw ≤ 12 ∧ nl ≤ 16 ∧ 3 ≤ lm ∧ lm ≤ 15 ∧ (∀ i, i < nl → ∃ w, w < nw ∧ Tg i = nI w) ∧ (∀ i, Jd i = 0 ∨ Jd i = 1) ∧ (∀ i, Cj i = 0 ∨ Cj i = 1) ∧ (0 < nl → Jd (nl - 1) = 0) ∧ (∀ w, w < nw → ∃ x, 1 ≤ x ∧ x ≤ 30 ∧ L w = nI x) ∧ (∀ w, w < nw → ∃ x, S w = nI x ∧ x < 2 ^ nw ∧ x.testBit w = true)
def IX (σ : gS) (τ : gT) (nw nl lm : Nat) : Prop := Iv nw nl lm (σ 3) (σ 9) (σ 4) (τ 0) (τ 1) (τ 7) (τ 8) (τ 17)
def IM (σ : gS) (τ : gT) (nw nl lm : Nat) : Prop := Iv nw nl lm (σ 21) (σ 30) (σ 22) (τ 27) (τ 28) (τ 31) (τ 32) (τ 35)
section
variable {nw nl lm : Nat} {a3 a9 a4 : Int32} {L S Tg Jd Cj : Nat → Int32}
theorem Iv_h3 (I : Iv nw nl lm a3 a9 a4 L S Tg Jd Cj) : a3 = nI nw := I.1
theorem Iv_h9 (I : Iv nw nl lm a3 a9 a4 L S Tg Jd Cj) : a9 = nI nl := I.2.1
theorem Iv_h4 (I : Iv nw nl lm a3 a9 a4 L S Tg Jd Cj) : a4 = nI lm := I.2.2.1
theorem Iv_nw (I : Iv nw nl lm a3 a9 a4 L S Tg Jd Cj) : nw ≤ 12 := I.2.2.2.1
theorem Iv_nl (I : Iv nw nl lm a3 a9 a4 L S Tg Jd Cj) : nl ≤ 16 := I.2.2.2.2.1
theorem Iv_lm (I : Iv nw nl lm a3 a9 a4 L S Tg Jd Cj) : 3 ≤ lm ∧ lm ≤ 15 := ⟨I.2.2.2.2.2.1, I.2.2.2.2.2.2.1⟩
theorem Iv_ne (I : Iv nw nl lm a3 a9 a4 L S Tg Jd Cj) : ¬ a4 = 0 := by
  rw [Iv_h4 I]
  have := (Iv_lm I)
  exact nI_ne0 (by omega) (by omega)
theorem Iv_tg (I : Iv nw nl lm a3 a9 a4 L S Tg Jd Cj) : ∀ i, i < nl → ∃ w, w < nw ∧ Tg i = nI w := I.2.2.2.2.2.2.2.1
theorem Iv_tin (I : Iv nw nl lm a3 a9 a4 L S Tg Jd Cj) {i : Nat} (hi : i < nl) : vp_in (Tg i) 12 := by
  obtain ⟨w, hw, e⟩ := Iv_tg I i hi
  have := Iv_nw I
  rw [e]
  exact vp_in_nI (by omega) (by omega)
theorem Iv_jd (I : Iv nw nl lm a3 a9 a4 L S Tg Jd Cj) : ∀ i, Jd i = 0 ∨ Jd i = 1 := I.2.2.2.2.2.2.2.2.1
theorem Iv_cj (I : Iv nw nl lm a3 a9 a4 L S Tg Jd Cj) : ∀ i, Cj i = 0 ∨ Cj i = 1 := I.2.2.2.2.2.2.2.2.2.1
theorem Iv_last (I : Iv nw nl lm a3 a9 a4 L S Tg Jd Cj) : 0 < nl → Jd (nl - 1) = 0 := I.2.2.2.2.2.2.2.2.2.2.1
theorem Iv_lt (I : Iv nw nl lm a3 a9 a4 L S Tg Jd Cj) : ∀ w, w < nw → ∃ x, 1 ≤ x ∧ x ≤ 30 ∧ L w = nI x := I.2.2.2.2.2.2.2.2.2.2.2.1
theorem Iv_st (I : Iv nw nl lm a3 a9 a4 L S Tg Jd Cj) : ∀ w, w < nw → ∃ x, S w = nI x ∧ x < 2 ^ nw ∧ x.testBit w = true := I.2.2.2.2.2.2.2.2.2.2.2.2
end
/-- bestWordAt: word and count behind j words -/
def bw (lm : Int32) (nl : Nat) (L S Tg : Nat → Int32) (p : Nat) : Nat → Int32 × Int32
  | 0 => (Tg p, 1000000)
  | j + 1 => if mh nl S Tg p (nI j) ≠ 0 ∧ cn lm (L j) < (bw lm nl L S Tg p j).2 then (nI j, cn lm (L j)) else bw lm nl L S Tg p j
theorem bw_no {lm : Int32} {nl : Nat} {L S Tg : Nat → Int32} {p j : Nat} (h : ¬ (mh nl S Tg p (nI j) ≠ 0 ∧ cn lm (L j) < (bw lm nl L S Tg p j).2)) : bw lm nl L S Tg p (j + 1) = bw lm nl L S Tg p j := by
  show (if _ then _ else _) = _
  rw [if_neg h]
theorem bw_yes {lm : Int32} {nl : Nat} {L S Tg : Nat → Int32} {p j : Nat} (h : mh nl S Tg p (nI j) ≠ 0 ∧ cn lm (L j) < (bw lm nl L S Tg p j).2) : bw lm nl L S Tg p (j + 1) = (nI j, cn lm (L j)) := by
  show (if _ then _ else _) = _
  rw [if_pos h]
/-- bestPairAt: the inner loop, first word a, behind b second words -/
def bq (lm : Int32) (nl : Nat) (L S J Tg : Nat → Int32) (p a : Nat) (s : Int32 × Int32) : Nat → Int32 × Int32
  | 0 => s
  | b + 1 => if (mh nl S Tg (p + 1) (nI b) ≠ 0 ∧ hb (J a) (nI b) ≠ 0) ∧ cn lm (L a + L b) < (bq lm nl L S J Tg p a s b).2 then (nI a * 100 + nI b, cn lm (L a + L b)) else bq lm nl L S J Tg p a s b
theorem bq_no {lm : Int32} {nl : Nat} {L S J Tg : Nat → Int32} {p a b : Nat} {s : Int32 × Int32} (h : ¬ ((mh nl S Tg (p + 1) (nI b) ≠ 0 ∧ hb (J a) (nI b) ≠ 0) ∧ cn lm (L a + L b) < (bq lm nl L S J Tg p a s b).2)) : bq lm nl L S J Tg p a s (b + 1) = bq lm nl L S J Tg p a s b := by
  show (if _ then _ else _) = _
  rw [if_neg h]
theorem bq_yes {lm : Int32} {nl : Nat} {L S J Tg : Nat → Int32} {p a b : Nat} {s : Int32 × Int32} (h : (mh nl S Tg (p + 1) (nI b) ≠ 0 ∧ hb (J a) (nI b) ≠ 0) ∧ cn lm (L a + L b) < (bq lm nl L S J Tg p a s b).2) : bq lm nl L S J Tg p a s (b + 1) = (nI a * 100 + nI b, cn lm (L a + L b)) := by
  show (if _ then _ else _) = _
  rw [if_pos h]
/-- bestPairAt: behind a first words -/
def bp (lm : Int32) (nw nl : Nat) (L S J Tg : Nat → Int32) (p : Nat) : Nat → Int32 × Int32
  | 0 => (-1, 1000000)
  | a + 1 => if mh nl S Tg p (nI a) ≠ 0 then bq lm nl L S J Tg p a (bp lm nw nl L S J Tg p a) nw else bp lm nw nl L S J Tg p a
theorem bp_no {lm : Int32} {nw nl : Nat} {L S J Tg : Nat → Int32} {p a : Nat} (h : mh nl S Tg p (nI a) = 0) : bp lm nw nl L S J Tg p (a + 1) = bp lm nw nl L S J Tg p a := by
  show (if _ then _ else _) = _
  rw [if_neg (fun q => q h)]
theorem bp_yes {lm : Int32} {nw nl : Nat} {L S J Tg : Nat → Int32} {p a : Nat} (h : mh nl S Tg p (nI a) ≠ 0) : bp lm nw nl L S J Tg p (a + 1) = bq lm nl L S J Tg p a (bp lm nw nl L S J Tg p a) nw := by
  show (if _ then _ else _) = _
  rw [if_pos h]
set_option maxRecDepth 100000 in
theorem mwX0_bestWordAt_inX : ∀ w ∈ wsX00, w ∈ wsX0_bestWordAt := by decide +kernel
set_option maxRecDepth 100000 in
theorem mwX0_bestWordAt_f19 : Cond.fieldLink RX0 19 "TelegraphPrices" "words" "I" ∈ wsX0_bestWordAt := by decide +kernel
set_option maxRecDepth 100000 in
theorem mwX0_bestWordAt_f9 : Cond.fieldLink RX0 9 "TelegraphPrices" "letters" "[I" ∈ wsX0_bestWordAt := by decide +kernel
set_option maxRecDepth 100000 in
theorem mwX0_bestWordAt_f32 : Cond.fieldLink RX0 32 "TelegraphPrices" "telegram" "[I" ∈ wsX0_bestWordAt := by decide +kernel
set_option maxRecDepth 100000 in
theorem mwX0_bestWordAt_c151 : Cond.constant RX0 151 (1000000) ∈ wsX0_bestWordAt := by decide +kernel
set_option maxHeartbeats 4000000 in
set_option maxRecDepth 100000 in
theorem c_bestWordAt {l : Launch} (hl : l.stackTraces = false) (Γ : gG) (σ : gS) (τ : gT) (o : gO) (nw nl lm p : Nat) (I : IX σ τ nw nl lm) (hp : p < nl) : Ct l yX0_bestWordAt wsX0_bestWordAt 3 96 0 0 [.ref (Γ.2.1 100), .int (nI p)] Γ σ τ o (pE (some (.int (bw (σ 4) nl (τ 0) (τ 1) (τ 7) p nw).1)) σ τ o) (noX) := by
  refine ct_of hl (by decide +kernel) rfl (Nat.le_of_ble_eq_true rfl) ?_
  intro E C F T hΓ hL R
  subst hΓ
  subst hL
  show G E 0 0 0 [(0, .ref ((eG E).2.1 100)), (1, .int (nI p))] [] σ τ o
  have hnw := Iv_nw I
  have hnl := Iv_nl I
  have h3 : σ 3 = nI nw := Iv_h3 I
  have h9 : σ 9 = nI nl := Iv_h9 I
  have h4 : ¬ σ 4 = 0 := Iv_ne I
  have loop : ∀ m j : Nat, j + m = nw → G E 0 0 13 [(4, .int (nI j)), (3, .int (bw (σ 4) nl (τ 0) (τ 1) (τ 7) p j).2), (2, .int (bw (σ 4) nl (τ 0) (τ 1) (τ 7) p j).1), (0, .ref ((eG E).2.1 100)), (1, .int (nI p))] [] σ τ o := by
    intro m
    induction m with
    | zero =>
      intro j hj
      refine g_iload C dX0_bestWordAt_13 rfl ?_
      refine g_aload_n C dX0_bestWordAt_15 rfl rfl ?_
      refine g_getX C 3 dX0_bestWordAt_16 mwX0_bestWordAt_inX (by decide) mwX0_bestWordAt_f19 rfl rfl ?_
      refine g_icmp_ge (tgt := 68) C dX0_bestWordAt_19 (by decide) (fun c_19 => ?_) (fun c_19 => ?_)
      · refine g_iload_n C dX0_bestWordAt_68 rfl rfl ?_
        exact g_iret C F dX0_bestWordAt_69 (by decide) (by decide) ⟨by rw [show j = nw by omega], rfl, rfl, rfl⟩
      · exact absurd (by rw [h3]; exact nI_le (by omega) (by omega)) c_19
    | succ m ih =>
      intro j hj
      refine g_iload C dX0_bestWordAt_13 rfl ?_
      refine g_aload_n C dX0_bestWordAt_15 rfl rfl ?_
      refine g_getX C 3 dX0_bestWordAt_16 mwX0_bestWordAt_inX (by decide) mwX0_bestWordAt_f19 rfl rfl ?_
      refine g_icmp_ge (tgt := 68) C dX0_bestWordAt_19 (by decide) (fun c_19 => ?_) (fun c_19 => ?_)
      · exact absurd (by rw [h3] at c_19; exact c_19) (nI_ge (by omega) (by omega))
      · refine g_aload_n C dX0_bestWordAt_22 rfl rfl ?_
        refine g_iload_n C dX0_bestWordAt_23 rfl rfl ?_
        refine g_iload C dX0_bestWordAt_24 rfl ?_
        refine g_callVEi (Cl := RX0) (T := TX0) (N := 18) (ci := 0) (q0 := 0) (na := 2) C dX0_bestWordAt_26 (c_mayHold hl (eG E) σ τ o nl p _ h9 hnl (by omega) (fun h => Iv_tin I h)) gX0_bestWordAt_X0_mayHold rfl rfl (by decide +kernel) rfl rfl rfl (Nat.le_of_ble_eq_true rfl) (by rw [R]; exact ⟨by decide, by decide⟩) (by rw [R]; exact ⟨by decide, by decide⟩) ?_
        refine g_if_eq (tgt := 62) C dX0_bestWordAt_29 (by decide) (fun c_29 => ?_) (fun c_29 => ?_)
        · have e : bw (σ 4) nl (τ 0) (τ 1) (τ 7) p (j + 1) = bw (σ 4) nl (τ 0) (τ 1) (τ 7) p j := bw_no (fun q => q.1 c_29)
          refine g_iinc C 0 [(4, _), (3, _), (2, _), (0, _), (1, _)] dX0_bestWordAt_62 rfl (nI_i1 j) (by decide) rfl ?_
          refine g_goto (tgt := 13) C dX0_bestWordAt_65 (by decide) ?_
          have g := ih (j + 1) (by omega)
          rw [e] at g
          exact g
        · refine g_aload_n C dX0_bestWordAt_32 rfl rfl ?_
          refine g_aload_n C dX0_bestWordAt_33 rfl rfl ?_
          refine g_getX C 0 dX0_bestWordAt_34 mwX0_bestWordAt_inX (by decide) mwX0_bestWordAt_f9 rfl rfl ?_
          refine g_iload C dX0_bestWordAt_37 rfl ?_
          refine g_ialdN C (j) dX0_bestWordAt_39 rfl rfl (show j < 12 by omega) (by decide) ?_
          refine g_callVEi (Cl := RX0) (T := TX0) (N := 18) (ci := 0) (q0 := 0) (na := 1) C dX0_bestWordAt_40 (c_cnt hl (eG E) σ τ o _ h4) gX0_bestWordAt_X0_countOfLetters rfl rfl (by decide +kernel) rfl rfl rfl (Nat.le_of_ble_eq_true rfl) (by rw [R]; exact ⟨by decide, by decide⟩) (by rw [R]; exact ⟨by decide, by decide⟩) ?_
          refine g_iload_n C dX0_bestWordAt_43 rfl rfl ?_
          refine g_icmp_ge (tgt := 62) C dX0_bestWordAt_44 (by decide) (fun c_44 => ?_) (fun c_44 => ?_)
          · have e : bw (σ 4) nl (τ 0) (τ 1) (τ 7) p (j + 1) = bw (σ 4) nl (τ 0) (τ 1) (τ 7) p j := bw_no (fun q => absurd q.2 (Int32.not_lt.mpr c_44))
            refine g_iinc C 0 [(4, _), (3, _), (2, _), (0, _), (1, _)] dX0_bestWordAt_62 rfl (nI_i1 j) (by decide) rfl ?_
            refine g_goto (tgt := 13) C dX0_bestWordAt_65 (by decide) ?_
            have g := ih (j + 1) (by omega)
            rw [e] at g
            exact g
          · have e : bw (σ 4) nl (τ 0) (τ 1) (τ 7) p (j + 1) = (nI j, cn (σ 4) (τ 0 j)) := bw_yes ⟨c_29, Int32.not_le.mp c_44⟩
            refine g_iload C dX0_bestWordAt_47 rfl ?_
            refine g_istore_n C [(2, _), (4, _), (3, _), (0, _), (1, _)] dX0_bestWordAt_49 rfl (by decide) rfl ?_
            refine g_aload_n C dX0_bestWordAt_50 rfl rfl ?_
            refine g_aload_n C dX0_bestWordAt_51 rfl rfl ?_
            refine g_getX C 0 dX0_bestWordAt_52 mwX0_bestWordAt_inX (by decide) mwX0_bestWordAt_f9 rfl rfl ?_
            refine g_iload C dX0_bestWordAt_55 rfl ?_
            refine g_ialdN C (j) dX0_bestWordAt_57 rfl rfl (show j < 12 by omega) (by decide) ?_
            refine g_callVEi (Cl := RX0) (T := TX0) (N := 18) (ci := 0) (q0 := 0) (na := 1) C dX0_bestWordAt_58 (c_cnt hl (eG E) σ τ o _ h4) gX0_bestWordAt_X0_countOfLetters rfl rfl (by decide +kernel) rfl rfl rfl (Nat.le_of_ble_eq_true rfl) (by rw [R]; exact ⟨by decide, by decide⟩) (by rw [R]; exact ⟨by decide, by decide⟩) ?_
            refine g_istore_n C [(3, _), (2, _), (4, _), (0, _), (1, _)] dX0_bestWordAt_61 rfl (by decide) rfl ?_
            refine g_iinc C 2 [(4, _), (3, _), (2, _), (0, _), (1, _)] dX0_bestWordAt_62 rfl (nI_i1 j) (by decide) rfl ?_
            refine g_goto (tgt := 13) C dX0_bestWordAt_65 (by decide) ?_
            have g := ih (j + 1) (by omega)
            rw [e] at g
            exact g
  refine g_aload_n C dX0_bestWordAt_0 rfl rfl ?_
  refine g_getX C 7 dX0_bestWordAt_1 mwX0_bestWordAt_inX (by decide) mwX0_bestWordAt_f32 rfl rfl ?_
  refine g_iload_n C dX0_bestWordAt_4 rfl rfl ?_
  refine g_ialdN C (p) dX0_bestWordAt_5 rfl rfl (show p < 16 by omega) (by decide) ?_
  refine g_istore_n C [(2, _), (0, _), (1, _)] dX0_bestWordAt_6 rfl (by decide) rfl ?_
  refine g_ldc C dX0_bestWordAt_7 mwX0_bestWordAt_c151 ?_
  refine g_istore_n C [(3, _), (2, _), (0, _), (1, _)] dX0_bestWordAt_9 rfl (by decide) rfl ?_
  refine g_iconst (v := 0) C dX0_bestWordAt_10 (by decide) ?_
  refine g_istore C [(4, _), (3, _), (2, _), (0, _), (1, _)] dX0_bestWordAt_11 (by decide) rfl ?_
  exact loop nw 0 (Nat.zero_add _)
set_option maxRecDepth 100000 in
theorem mwX0_bestPairAt_inX : ∀ w ∈ wsX00, w ∈ wsX0_bestPairAt := by decide +kernel
set_option maxRecDepth 100000 in
theorem mwX0_bestPairAt_f19 : Cond.fieldLink RX0 19 "TelegraphPrices" "words" "I" ∈ wsX0_bestPairAt := by decide +kernel
set_option maxRecDepth 100000 in
theorem mwX0_bestPairAt_f16 : Cond.fieldLink RX0 16 "TelegraphPrices" "joins" "[I" ∈ wsX0_bestPairAt := by decide +kernel
set_option maxRecDepth 100000 in
theorem mwX0_bestPairAt_c151 : Cond.constant RX0 151 (1000000) ∈ wsX0_bestPairAt := by decide +kernel
set_option maxHeartbeats 4000000 in
set_option maxRecDepth 100000 in
theorem c_bestPairAt {l : Launch} (hl : l.stackTraces = false) (Γ : gG) (σ : gS) (τ : gT) (o : gO) (nw nl lm p : Nat) (I : IX σ τ nw nl lm) (hp : p < nl) : Ct l yX0_bestPairAt wsX0_bestPairAt 3 96 0 0 [.ref (Γ.2.1 100), .int (nI p)] Γ σ τ o (pE (some (.int (bp (σ 4) nw nl (τ 0) (τ 1) (τ 2) (τ 7) p nw).1)) σ τ o) (noX) := by
  refine ct_of hl (by decide +kernel) rfl (Nat.le_of_ble_eq_true rfl) ?_
  intro E C F T hΓ hL R
  subst hΓ
  subst hL
  show G E 0 0 0 [(0, .ref ((eG E).2.1 100)), (1, .int (nI p))] [] σ τ o
  have hnw := Iv_nw I
  have hnl := Iv_nl I
  have h3 : σ 3 = nI nw := Iv_h3 I
  have h9 : σ 9 = nI nl := Iv_h9 I
  have h4 : ¬ σ 4 = 0 := Iv_ne I
  have loop : ∀ m a : Nat, a + m = nw → G E 0 0 8 [(4, .int (nI a)), (3, .int (bp (σ 4) nw nl (τ 0) (τ 1) (τ 2) (τ 7) p a).2), (2, .int (bp (σ 4) nw nl (τ 0) (τ 1) (τ 2) (τ 7) p a).1), (0, .ref ((eG E).2.1 100)), (1, .int (nI p))] [] σ τ o := by
    intro m
    induction m with
    | zero =>
      intro a ha
      refine g_iload C dX0_bestPairAt_8 rfl ?_
      refine g_aload_n C dX0_bestPairAt_10 rfl rfl ?_
      refine g_getX C 3 dX0_bestPairAt_11 mwX0_bestPairAt_inX (by decide) mwX0_bestPairAt_f19 rfl rfl ?_
      refine g_icmp_ge (tgt := 120) C dX0_bestPairAt_14 (by decide) (fun c_14 => ?_) (fun c_14 => ?_)
      · refine g_iload_n C dX0_bestPairAt_120 rfl rfl ?_
        exact g_iret C F dX0_bestPairAt_121 (by decide) (by decide) ⟨by rw [show a = nw by omega], rfl, rfl, rfl⟩
      · exact absurd (by rw [h3]; exact nI_le (by omega) (by omega)) c_14
    | succ m ih =>
      intro a ha
      have inner : mh nl (τ 1) (τ 7) p (nI a) ≠ 0 → ∀ k b : Nat, b + k = nw → G E 0 0 30 [(5, .int (nI b)), (4, .int (nI a)), (3, .int (bq (σ 4) nl (τ 0) (τ 1) (τ 2) (τ 7) p a (bp (σ 4) nw nl (τ 0) (τ 1) (τ 2) (τ 7) p a) b).2), (2, .int (bq (σ 4) nl (τ 0) (τ 1) (τ 2) (τ 7) p a (bp (σ 4) nw nl (τ 0) (τ 1) (τ 2) (τ 7) p a) b).1), (0, .ref ((eG E).2.1 100)), (1, .int (nI p))] [] σ τ o := by
        intro hm k
        induction k with
        | zero =>
          intro b hb9
          refine g_iload C dX0_bestPairAt_30 rfl ?_
          refine g_aload_n C dX0_bestPairAt_32 rfl rfl ?_
          refine g_getX C 3 dX0_bestPairAt_33 mwX0_bestPairAt_inX (by decide) mwX0_bestPairAt_f19 rfl rfl ?_
          refine g_icmp_ge (tgt := 114) C dX0_bestPairAt_36 (by decide) (fun c_36 => ?_) (fun c_36 => ?_)
          · refine g_iinc C 1 [(4, _), (5, _), (3, _), (2, _), (0, _), (1, _)] dX0_bestPairAt_114 rfl (nI_i1 a) (by decide) rfl ?_
            refine g_goto (tgt := 8) C dX0_bestPairAt_117 (by decide) ?_
            refine g_lv [0, 2, 3, 4, 5] [(4, _), (3, _), (2, _), (0, _), (1, _)] rfl ?_
            have g := ih (a + 1) (by omega)
            rw [bp_yes hm] at g
            rw [show b = nw by omega]
            exact g
          · exact absurd (by rw [h3]; exact nI_le (by omega) (by omega)) c_36
        | succ k ih2 =>
          intro b hb9
          refine g_iload C dX0_bestPairAt_30 rfl ?_
          refine g_aload_n C dX0_bestPairAt_32 rfl rfl ?_
          refine g_getX C 3 dX0_bestPairAt_33 mwX0_bestPairAt_inX (by decide) mwX0_bestPairAt_f19 rfl rfl ?_
          refine g_icmp_ge (tgt := 114) C dX0_bestPairAt_36 (by decide) (fun c_36 => ?_) (fun c_36 => ?_)
          · exact absurd (by rw [h3] at c_36; exact c_36) (nI_ge (by omega) (by omega))
          · refine g_aload_n C dX0_bestPairAt_39 rfl rfl ?_
            refine g_iload_n C dX0_bestPairAt_40 rfl rfl ?_
            refine g_iconst (v := 1) C dX0_bestPairAt_41 (by decide) ?_
            refine g_iadd C dX0_bestPairAt_42 ?_
            refine g_topi (nI_1 p) ?_
            refine g_iload C dX0_bestPairAt_43 rfl ?_
            refine g_callVEi (Cl := RX0) (T := TX0) (N := 18) (ci := 0) (q0 := 0) (na := 2) C dX0_bestPairAt_45 (c_mayHold hl (eG E) σ τ o nl (p + 1) _ h9 hnl (by omega) (fun h => Iv_tin I h)) gX0_bestPairAt_X0_mayHold rfl rfl (by decide +kernel) rfl rfl rfl (Nat.le_of_ble_eq_true rfl) (by rw [R]; exact ⟨by decide, by decide⟩) (by rw [R]; exact ⟨by decide, by decide⟩) ?_
            refine g_if_eq (tgt := 70) C dX0_bestPairAt_48 (by decide) (fun c_48 => ?_) (fun c_48 => ?_)
            · have e : bq (σ 4) nl (τ 0) (τ 1) (τ 2) (τ 7) p a (bp (σ 4) nw nl (τ 0) (τ 1) (τ 2) (τ 7) p a) (b + 1) = bq (σ 4) nl (τ 0) (τ 1) (τ 2) (τ 7) p a (bp (σ 4) nw nl (τ 0) (τ 1) (τ 2) (τ 7) p a) b := bq_no (fun q => q.1.1 c_48)
              refine g_iconst (v := 0) C dX0_bestPairAt_70 (by decide) ?_
              refine g_istore C [(6, _), (5, _), (4, _), (3, _), (2, _), (0, _), (1, _)] dX0_bestPairAt_71 (by decide) rfl ?_
              refine g_iload C dX0_bestPairAt_73 rfl ?_
              refine g_if_eq (tgt := 108) C dX0_bestPairAt_75 (by decide) (fun c_75 => ?_) (fun c_75 => ?_)
              · refine g_iinc C 1 [(5, _), (6, _), (4, _), (3, _), (2, _), (0, _), (1, _)] dX0_bestPairAt_108 rfl (nI_i1 b) (by decide) rfl ?_
                refine g_goto (tgt := 30) C dX0_bestPairAt_111 (by decide) ?_
                refine g_lv [0, 2, 3, 4, 5, 6] [(5, _), (4, _), (3, _), (2, _), (0, _), (1, _)] rfl ?_
                have g := ih2 (b + 1) (by omega)
                rw [e] at g
                exact g
              · exact absurd rfl c_75
            · refine g_aload_n C dX0_bestPairAt_51 rfl rfl ?_
              refine g_getX C 2 dX0_bestPairAt_52 mwX0_bestPairAt_inX (by decide) mwX0_bestPairAt_f16 rfl rfl ?_
              refine g_iload C dX0_bestPairAt_55 rfl ?_
              refine g_ialdN C (a) dX0_bestPairAt_57 rfl rfl (show a < 12 by omega) (by decide) ?_
              refine g_iload C dX0_bestPairAt_58 rfl ?_
              refine g_callSEi (na := 2) C dX0_bestPairAt_60 (c_hasBit hl (eG E) σ τ o _ _) gX0_bestPairAt_X0_hasBit rfl rfl (by decide +kernel) rfl (Nat.le_of_ble_eq_true rfl) (by rw [R]; exact ⟨by decide, by decide⟩) (by rw [R]; exact ⟨by decide, by decide⟩) ?_
              refine g_if_eq (tgt := 70) C dX0_bestPairAt_63 (by decide) (fun c_63 => ?_) (fun c_63 => ?_)
              · have e : bq (σ 4) nl (τ 0) (τ 1) (τ 2) (τ 7) p a (bp (σ 4) nw nl (τ 0) (τ 1) (τ 2) (τ 7) p a) (b + 1) = bq (σ 4) nl (τ 0) (τ 1) (τ 2) (τ 7) p a (bp (σ 4) nw nl (τ 0) (τ 1) (τ 2) (τ 7) p a) b := bq_no (fun q => q.1.2 c_63)
                refine g_iconst (v := 0) C dX0_bestPairAt_70 (by decide) ?_
                refine g_istore C [(6, _), (5, _), (4, _), (3, _), (2, _), (0, _), (1, _)] dX0_bestPairAt_71 (by decide) rfl ?_
                refine g_iload C dX0_bestPairAt_73 rfl ?_
                refine g_if_eq (tgt := 108) C dX0_bestPairAt_75 (by decide) (fun c_75 => ?_) (fun c_75 => ?_)
                · refine g_iinc C 1 [(5, _), (6, _), (4, _), (3, _), (2, _), (0, _), (1, _)] dX0_bestPairAt_108 rfl (nI_i1 b) (by decide) rfl ?_
                  refine g_goto (tgt := 30) C dX0_bestPairAt_111 (by decide) ?_
                  refine g_lv [0, 2, 3, 4, 5, 6] [(5, _), (4, _), (3, _), (2, _), (0, _), (1, _)] rfl ?_
                  have g := ih2 (b + 1) (by omega)
                  rw [e] at g
                  exact g
                · exact absurd rfl c_75
              · refine g_iconst (v := 1) C dX0_bestPairAt_66 (by decide) ?_
                refine g_goto (tgt := 71) C dX0_bestPairAt_67 (by decide) ?_
                refine g_istore C [(6, _), (5, _), (4, _), (3, _), (2, _), (0, _), (1, _)] dX0_bestPairAt_71 (by decide) rfl ?_
                refine g_iload C dX0_bestPairAt_73 rfl ?_
                refine g_if_eq (tgt := 108) C dX0_bestPairAt_75 (by decide) (fun c_75 => ?_) (fun c_75 => ?_)
                · exact absurd c_75 (by decide)
                · refine g_aload_n C dX0_bestPairAt_78 rfl rfl ?_
                  refine g_iload C dX0_bestPairAt_79 rfl ?_
                  refine g_iload C dX0_bestPairAt_81 rfl ?_
                  refine g_callVEi (Cl := RX0) (T := TX0) (N := 18) (ci := 0) (q0 := 0) (na := 2) C dX0_bestPairAt_83 (c_cntPair hl (eG E) σ τ o _ _ h4 (vp_in_nI (show a < 12 by omega) (by decide)) (vp_in_nI (show b < 12 by omega) (by decide))) gX0_bestPairAt_X0_countOfPair rfl rfl (by decide +kernel) rfl rfl rfl (Nat.le_of_ble_eq_true rfl) (by rw [R]; exact ⟨by decide, by decide⟩) (by rw [R]; exact ⟨by decide, by decide⟩) ?_
                  rw [nI_clamp (show a < 2 ^ 31 by omega), nI_clamp (show b < 2 ^ 31 by omega)]
                  refine g_iload_n C dX0_bestPairAt_86 rfl rfl ?_
                  refine g_icmp_ge (tgt := 108) C dX0_bestPairAt_87 (by decide) (fun c_87 => ?_) (fun c_87 => ?_)
                  · have e : bq (σ 4) nl (τ 0) (τ 1) (τ 2) (τ 7) p a (bp (σ 4) nw nl (τ 0) (τ 1) (τ 2) (τ 7) p a) (b + 1) = bq (σ 4) nl (τ 0) (τ 1) (τ 2) (τ 7) p a (bp (σ 4) nw nl (τ 0) (τ 1) (τ 2) (τ 7) p a) b := bq_no (fun q => absurd q.2 (Int32.not_lt.mpr c_87))
                    refine g_iinc C 1 [(5, _), (6, _), (4, _), (3, _), (2, _), (0, _), (1, _)] dX0_bestPairAt_108 rfl (nI_i1 b) (by decide) rfl ?_
                    refine g_goto (tgt := 30) C dX0_bestPairAt_111 (by decide) ?_
                    refine g_lv [0, 2, 3, 4, 5, 6] [(5, _), (4, _), (3, _), (2, _), (0, _), (1, _)] rfl ?_
                    have g := ih2 (b + 1) (by omega)
                    rw [e] at g
                    exact g
                  · have e : bq (σ 4) nl (τ 0) (τ 1) (τ 2) (τ 7) p a (bp (σ 4) nw nl (τ 0) (τ 1) (τ 2) (τ 7) p a) (b + 1) = (nI a * 100 + nI b, cn (σ 4) (τ 0 a + τ 0 b)) := bq_yes ⟨⟨c_48, c_63⟩, Int32.not_le.mp c_87⟩
                    refine g_iload C dX0_bestPairAt_90 rfl ?_
                    refine g_bipush (v := 100) C dX0_bestPairAt_92 (by decide) ?_
                    refine g_imul C dX0_bestPairAt_94 ?_
                    refine g_iload C dX0_bestPairAt_95 rfl ?_
                    refine g_iadd C dX0_bestPairAt_97 ?_
                    refine g_istore_n C [(2, _), (6, _), (5, _), (4, _), (3, _), (0, _), (1, _)] dX0_bestPairAt_98 rfl (by decide) rfl ?_
                    refine g_aload_n C dX0_bestPairAt_99 rfl rfl ?_
                    refine g_iload C dX0_bestPairAt_100 rfl ?_
                    refine g_iload C dX0_bestPairAt_102 rfl ?_
                    refine g_callVEi (Cl := RX0) (T := TX0) (N := 18) (ci := 0) (q0 := 0) (na := 2) C dX0_bestPairAt_104 (c_cntPair hl (eG E) σ τ o _ _ h4 (vp_in_nI (show a < 12 by omega) (by decide)) (vp_in_nI (show b < 12 by omega) (by decide))) gX0_bestPairAt_X0_countOfPair rfl rfl (by decide +kernel) rfl rfl rfl (Nat.le_of_ble_eq_true rfl) (by rw [R]; exact ⟨by decide, by decide⟩) (by rw [R]; exact ⟨by decide, by decide⟩) ?_
                    rw [nI_clamp (show a < 2 ^ 31 by omega), nI_clamp (show b < 2 ^ 31 by omega)]
                    refine g_istore_n C [(3, _), (2, _), (6, _), (5, _), (4, _), (0, _), (1, _)] dX0_bestPairAt_107 rfl (by decide) rfl ?_
                    refine g_iinc C 3 [(5, _), (3, _), (2, _), (6, _), (4, _), (0, _), (1, _)] dX0_bestPairAt_108 rfl (nI_i1 b) (by decide) rfl ?_
                    refine g_goto (tgt := 30) C dX0_bestPairAt_111 (by decide) ?_
                    refine g_lv [0, 4, 1, 2, 5, 6] [(5, _), (4, _), (3, _), (2, _), (0, _), (1, _)] rfl ?_
                    have g := ih2 (b + 1) (by omega)
                    rw [e] at g
                    exact g
      refine g_iload C dX0_bestPairAt_8 rfl ?_
      refine g_aload_n C dX0_bestPairAt_10 rfl rfl ?_
      refine g_getX C 3 dX0_bestPairAt_11 mwX0_bestPairAt_inX (by decide) mwX0_bestPairAt_f19 rfl rfl ?_
      refine g_icmp_ge (tgt := 120) C dX0_bestPairAt_14 (by decide) (fun c_14 => ?_) (fun c_14 => ?_)
      · exact absurd (by rw [h3] at c_14; exact c_14) (nI_ge (by omega) (by omega))
      · refine g_aload_n C dX0_bestPairAt_17 rfl rfl ?_
        refine g_iload_n C dX0_bestPairAt_18 rfl rfl ?_
        refine g_iload C dX0_bestPairAt_19 rfl ?_
        refine g_callVEi (Cl := RX0) (T := TX0) (N := 18) (ci := 0) (q0 := 0) (na := 2) C dX0_bestPairAt_21 (c_mayHold hl (eG E) σ τ o nl p _ h9 hnl (by omega) (fun h => Iv_tin I h)) gX0_bestPairAt_X0_mayHold rfl rfl (by decide +kernel) rfl rfl rfl (Nat.le_of_ble_eq_true rfl) (by rw [R]; exact ⟨by decide, by decide⟩) (by rw [R]; exact ⟨by decide, by decide⟩) ?_
        refine g_if_eq (tgt := 114) C dX0_bestPairAt_24 (by decide) (fun c_24 => ?_) (fun c_24 => ?_)
        · refine g_iinc C 0 [(4, _), (3, _), (2, _), (0, _), (1, _)] dX0_bestPairAt_114 rfl (nI_i1 a) (by decide) rfl ?_
          refine g_goto (tgt := 8) C dX0_bestPairAt_117 (by decide) ?_
          have g := ih (a + 1) (by omega)
          rw [bp_no c_24] at g
          exact g
        · refine g_iconst (v := 0) C dX0_bestPairAt_27 (by decide) ?_
          refine g_istore C [(5, _), (4, _), (3, _), (2, _), (0, _), (1, _)] dX0_bestPairAt_28 (by decide) rfl ?_
          exact inner c_24 nw 0 (Nat.zero_add _)
  refine g_iconst (v := (-1)) C dX0_bestPairAt_0 (by decide) ?_
  refine g_istore_n C [(2, _), (0, _), (1, _)] dX0_bestPairAt_1 rfl (by decide) rfl ?_
  refine g_ldc C dX0_bestPairAt_2 mwX0_bestPairAt_c151 ?_
  refine g_istore_n C [(3, _), (2, _), (0, _), (1, _)] dX0_bestPairAt_4 rfl (by decide) rfl ?_
  refine g_iconst (v := 0) C dX0_bestPairAt_5 (by decide) ?_
  refine g_istore C [(4, _), (3, _), (2, _), (0, _), (1, _)] dX0_bestPairAt_6 (by decide) rfl ?_
  exact loop nw 0 (Nat.zero_add _)
