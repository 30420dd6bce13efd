/-! strike, reword, wordings, digest of the class -/
/-- g is f, from p on moved up by one, as far as at -/
def SH (p a : Nat) (f g : Nat → Int32) : Prop := (∀ q, q < p → g q = f q) ∧ (∀ q, p ≤ q → q < a → g q = f (q + 1)) ∧ ∀ q, a ≤ q → g q = f q
theorem SH_0 (p : Nat) (f : Nat → Int32) : SH p p f f := ⟨fun _ _ => rfl, fun q h1 h2 => by omega, fun _ _ => rfl⟩
theorem SH_next {p a : Nat} {f g : Nat → Int32} (h : SH p a f g) (hp : p ≤ a) : SH p (a + 1) f (upd g a (g (a + 1))) := by
  refine ⟨fun q hq => by rw [upd_ne (by omega)]; exact h.1 q hq, fun q h1 h2 => ?_, fun q hq => by rw [upd_ne (by omega)]; exact h.2.2 q (by omega)⟩
  by_cases e : q = a
  · subst e
    rw [upd_eq]
    exact h.2.2 (q + 1) (by omega)
  · rw [upd_ne e]
    exact h.2.1 q h1 (by omega)
/-- the place ahead is parted -/
def jz (p : Nat) (f : Nat → Int32) : Nat → Int32 := if p = 0 then f else upd f (p - 1) 0
theorem jz_01 {p : Nat} {f : Nat → Int32} (h : ∀ i, f i = 0 ∨ f i = 1) : ∀ i, jz p f i = 0 ∨ jz p f i = 1 := by
  intro i
  unfold jz
  split
  · exact h i
  · by_cases e : i = p - 1
    · rw [e, upd_eq]; exact Or.inl rfl
    · rw [upd_ne e]; exact h i
theorem upd_01 {f : Nat → Int32} {k : Nat} {x : Int32} (h : ∀ i, f i = 0 ∨ f i = 1) (hx : x = 0 ∨ x = 1) : ∀ i, upd f k x i = 0 ∨ upd f k x i = 1 := by
  intro i
  by_cases e : i = k
  · rw [e, upd_eq]; exact hx
  · rw [upd_ne e]; exact h i
/-- strike at p, on the way at a -/
def SK (t j p a : Nat) (τ τ' : gT) : Prop := (∀ c, c ≠ t → c ≠ j → τ' c = τ c) ∧ SH p a (τ t) (τ' t) ∧ SH p a (jz p (τ j)) (τ' j) ∧ ∀ i, τ' j i = 0 ∨ τ' j i = 1
theorem SK_next {t j p a : Nat} {τ τ' : gT} (htj : t ≠ j) (h : SK t j p a τ τ') (hp : p ≤ a) : SK t j p (a + 1) τ (uT (uT τ' t a (τ' t (a + 1))) j a (τ' j (a + 1))) := by
  obtain ⟨h1, h2, h3, h4⟩ := h
  refine ⟨fun c c1 c2 => by rw [uT_ne c2, uT_ne c1, h1 c c1 c2], ?_, ?_, ?_⟩
  · rw [uT_ne htj, uT_eq]
    exact SH_next h2 hp
  · rw [uT_eq, uT_ne htj.symm]
    exact SH_next h3 hp
  · rw [uT_eq, uT_ne htj.symm]
    exact upd_01 h4 (h4 (a + 1))
set_option maxRecDepth 100000 in
theorem mwX0_strike_inX : ∀ w ∈ wsX00, w ∈ wsX0_strike := by decide +kernel
set_option maxRecDepth 100000 in
theorem mwX0_strike_f39 : Cond.fieldLink RX0 39 "TelegraphPrices" "length" "I" ∈ wsX0_strike := by decide +kernel
set_option maxRecDepth 100000 in
theorem mwX0_strike_f32 : Cond.fieldLink RX0 32 "TelegraphPrices" "telegram" "[I" ∈ wsX0_strike := by decide +kernel
set_option maxRecDepth 100000 in
theorem mwX0_strike_f35 : Cond.fieldLink RX0 35 "TelegraphPrices" "joined" "[Z" ∈ wsX0_strike := by decide +kernel
set_option maxHeartbeats 4000000 in
set_option maxRecDepth 100000 in
theorem c_strike {l : Launch} (hl : l.stackTraces = false) (Γ : gG) (σ : gS) (τ : gT) (o : gO) (nw nl lm : Nat) (p : Nat) (I : IX σ τ nw nl lm) (hp : p < nl) : Ct l yX0_strike wsX0_strike 2 64 0 0 [.ref (Γ.2.1 100), .int (nI p)] Γ σ τ o (pI (fun r σ' τ' o' => r = nI (nl - 1) ∧ σ' = uS σ 9 (nI (nl - 1)) ∧ o' = o ∧ SK 7 8 p (nl - 1) τ τ')) (noX) := by
  refine ct_of hl (by decide +kernel) rfl (Nat.le_of_ble_eq_true rfl) ?_
  intro E C F T hΓ hL R
  subst hΓ
  subst hL
  show G E 0 0 0 [(0, .ref ((eG E).2.1 100)), (1, .int (nI p))] [] σ τ o
  have hnw := Iv_nw I
  have hnl := Iv_nl I
  have h3 : σ 3 = nI nw := Iv_h3 I
  have h9 : σ 9 = nI nl := Iv_h9 I
  have h4 : ¬ σ 4 = 0 := Iv_ne I
  have loop : ∀ m a : Nat, ∀ τ' : gT, a + m + 1 = nl → p ≤ a → SK 7 8 p a τ τ' → G E (0 + 0) (0 + 0) 20 [(2, .int (nI a)), (0, .ref ((eG E).2.1 100)), (1, .int (nI p))] [] σ τ' o := by
    intro m
    induction m with
    | zero =>
      intro a τ' ha hpa hN
      refine g_iload_n C dX0_strike_20 rfl rfl ?_
      refine g_iconst (v := 1) C dX0_strike_21 (by decide) ?_
      refine g_iadd C dX0_strike_22 ?_
      refine g_aload_n C dX0_strike_23 rfl rfl ?_
      refine g_getX C 9 dX0_strike_24 mwX0_strike_inX (by decide) mwX0_strike_f39 rfl rfl ?_
      refine g_icmp_ge (tgt := 64) C dX0_strike_27 (by decide) (fun c_27 => ?_) (fun c_27 => ?_)
      · refine g_aload_n C dX0_strike_64 rfl rfl ?_
        refine g_dup C dX0_strike_65 rfl ?_
        refine g_getX C 9 dX0_strike_66 mwX0_strike_inX (by decide) mwX0_strike_f39 rfl rfl ?_
        refine g_iconst (v := 1) C dX0_strike_69 (by decide) ?_
        refine g_isub C dX0_strike_70 ?_
        refine g_topi (show _ = nI (nl - 1) by rw [h9]; exact nI_m1 (by omega)) ?_
        refine g_putX C 9 dX0_strike_71 mwX0_strike_inX (by decide) mwX0_strike_f39 rfl rfl (by decide +kernel) rfl ?_
        refine g_aload_n C dX0_strike_74 rfl rfl ?_
        refine g_getX C 9 dX0_strike_75 mwX0_strike_inX (by decide) mwX0_strike_f39 rfl rfl ?_
        exact g_iret C F dX0_strike_78 (by decide) (by decide) ⟨_, rfl, rfl, rfl, rfl, by rw [show nl - 1 = a by omega]; exact hN⟩
      · exact absurd (by rw [nI_1, h9]; exact nI_le (by omega) (by omega)) c_27
    | succ m ih =>
      intro a τ' ha hpa hN
      refine g_iload_n C dX0_strike_20 rfl rfl ?_
      refine g_iconst (v := 1) C dX0_strike_21 (by decide) ?_
      refine g_iadd C dX0_strike_22 ?_
      refine g_aload_n C dX0_strike_23 rfl rfl ?_
      refine g_getX C 9 dX0_strike_24 mwX0_strike_inX (by decide) mwX0_strike_f39 rfl rfl ?_
      refine g_icmp_ge (tgt := 64) C dX0_strike_27 (by decide) (fun c_27 => ?_) (fun c_27 => ?_)
      · exact absurd (by rw [nI_1, h9] at c_27; exact c_27) (nI_ge (by omega) (by omega))
      · refine g_aload_n C dX0_strike_30 rfl rfl ?_
        refine g_getX C 7 dX0_strike_31 mwX0_strike_inX (by decide) mwX0_strike_f32 rfl rfl ?_
        refine g_iload_n C dX0_strike_34 rfl rfl ?_
        refine g_aload_n C dX0_strike_35 rfl rfl ?_
        refine g_getX C 7 dX0_strike_36 mwX0_strike_inX (by decide) mwX0_strike_f32 rfl rfl ?_
        refine g_iload_n C dX0_strike_39 rfl rfl ?_
        refine g_iconst (v := 1) C dX0_strike_40 (by decide) ?_
        refine g_iadd C dX0_strike_41 ?_
        refine g_ialdN C (a + 1) dX0_strike_42 rfl (nI_1 a) (show a + 1 < 16 by omega) (by decide) ?_
        refine g_iastN C (a) dX0_strike_43 rfl rfl (show a < 16 by omega) (by decide) rfl ?_
        refine g_aload_n C dX0_strike_44 rfl rfl ?_
        refine g_getX C 8 dX0_strike_45 mwX0_strike_inX (by decide) mwX0_strike_f35 rfl rfl ?_
        refine g_iload_n C dX0_strike_48 rfl rfl ?_
        refine g_aload_n C dX0_strike_49 rfl rfl ?_
        refine g_getX C 8 dX0_strike_50 mwX0_strike_inX (by decide) mwX0_strike_f35 rfl rfl ?_
        refine g_iload_n C dX0_strike_53 rfl rfl ?_
        refine g_iconst (v := 1) C dX0_strike_54 (by decide) ?_
        refine g_iadd C dX0_strike_55 ?_
        refine g_zaldN C (a + 1) dX0_strike_56 rfl (nI_1 a) (show a + 1 < 16 by omega) (by decide) ?_
        refine g_zastN C (a) dX0_strike_57 rfl rfl (show a < 16 by omega) (by decide) (hN.2.2.2 (a + 1)) rfl ?_
        refine g_iinc C 0 [(2, _), (0, _), (1, _)] dX0_strike_58 rfl (nI_i1 a) (by decide) rfl ?_
        refine g_goto (tgt := 20) C dX0_strike_61 (by decide) ?_
        exact ih (a + 1) _ (by omega) (by omega) (SK_next (by decide) hN hpa)
  refine g_aload_n C dX0_strike_0 rfl rfl ?_
  refine g_iload_n C dX0_strike_1 rfl rfl ?_
  refine g_callVEv (Cl := RX0) (T := TX0) (N := 18) (ci := 0) (q0 := 0) (na := 1) C dX0_strike_2 (c_needPlace hl (eG E) σ τ o _ (nI_pos (show p < 2 ^ 31 by omega)) (by rw [h9]; exact nI_lt (by omega) (by omega))) gX0_strike_X0_needPlace rfl rfl (by decide +kernel) rfl rfl rfl (Nat.le_of_ble_eq_true rfl) (by rw [R]; exact ⟨by decide, by decide⟩) (by rw [R]; exact ⟨by decide, by decide⟩) ?_
  refine g_iload_n C dX0_strike_5 rfl rfl ?_
  refine g_if_le (tgt := 18) C dX0_strike_6 (by decide) (fun c_6 => ?_) (fun c_6 => ?_)
  · have hp0 : p = 0 := by
      rcases Nat.eq_zero_or_pos p with z | z
      · exact z
      · exact absurd c_6 (nI_nle z (by omega))
    refine g_iload_n C dX0_strike_18 rfl rfl ?_
    refine g_istore_n C [(2, _), (0, _), (1, _)] dX0_strike_19 rfl (by decide) rfl ?_
    refine loop (nl - 1 - p) p _ (by omega) (Nat.le_refl _) ⟨fun _ _ _ => rfl, SH_0 _ _, ?_, Iv_jd I⟩
    unfold jz
    rw [if_pos hp0]
    exact SH_0 _ _
  · have hp0 : p ≠ 0 := fun z => c_6 (by rw [z]; decide)
    refine g_aload_n C dX0_strike_9 rfl rfl ?_
    refine g_getX C 8 dX0_strike_10 mwX0_strike_inX (by decide) mwX0_strike_f35 rfl rfl ?_
    refine g_iload_n C dX0_strike_13 rfl rfl ?_
    refine g_iconst (v := 1) C dX0_strike_14 (by decide) ?_
    refine g_isub C dX0_strike_15 ?_
    refine g_iconst (v := 0) C dX0_strike_16 (by decide) ?_
    refine g_zastN C (p - 1) dX0_strike_17 rfl (nI_m1 hp0) (show p - 1 < 16 by omega) (by decide) (Or.inl rfl) rfl ?_
    refine g_iload_n C dX0_strike_18 rfl rfl ?_
    refine g_istore_n C [(2, _), (0, _), (1, _)] dX0_strike_19 rfl (by decide) rfl ?_
    refine loop (nl - 1 - p) p _ (by omega) (Nat.le_refl _) ⟨fun c _ c2 => uT_ne c2, by rw [uT_ne (by decide)]; exact SH_0 _ _, ?_, ?_⟩
    · rw [uT_eq]
      unfold jz
      rw [if_neg hp0]
      exact SH_0 _ _
    · rw [uT_eq]
      exact upd_01 (Iv_jd I) (Or.inl rfl)
def wo (S Tg : Nat → Int32) : Nat → Int32
  | 0 => 1
  | p + 1 => if 1000000 < wo S Tg p * bcF (S (Tg p).toNatClampNeg) then 1000000 else wo S Tg p * bcF (S (Tg p).toNatClampNeg)
set_option maxRecDepth 100000 in
theorem mwX0_wordings_inX : ∀ w ∈ wsX00, w ∈ wsX0_wordings := by decide +kernel
set_option maxRecDepth 100000 in
theorem mwX0_wordings_f39 : Cond.fieldLink RX0 39 "TelegraphPrices" "length" "I" ∈ wsX0_wordings := by decide +kernel
set_option maxRecDepth 100000 in
theorem mwX0_wordings_f13 : Cond.fieldLink RX0 13 "TelegraphPrices" "standIns" "[I" ∈ wsX0_wordings := by decide +kernel
set_option maxRecDepth 100000 in
theorem mwX0_wordings_f32 : Cond.fieldLink RX0 32 "TelegraphPrices" "telegram" "[I" ∈ wsX0_wordings := by decide +kernel
set_option maxRecDepth 100000 in
theorem mwX0_wordings_c151 : Cond.constant RX0 151 (1000000) ∈ wsX0_wordings := by decide +kernel
set_option maxRecDepth 100000 in
theorem mwX0_wordings_l152 : Cond.methodLink RX0 152 Lib.Math.min.name ∈ wsX0_wordings := by decide +kernel
set_option maxRecDepth 100000 in
theorem mwX0_wordings_smin : Cond.static Lib.Math.min.name ∈ wsX0_wordings := by decide +kernel
set_option maxRecDepth 100000 in
theorem mwX0_wordings_iMath : Cond.initialized "java/lang/Math" ∈ wsX0_wordings := by decide +kernel
set_option maxRecDepth 100000 in
theorem mwX0_wordings_kmin : Cond.code Lib.Math.min.name Lib.Math.min.code 2 (some .int) ∈ wsX0_wordings := by decide +kernel
set_option maxHeartbeats 4000000 in
set_option maxRecDepth 100000 in
theorem c_wordings {l : Launch} (hl : l.stackTraces = false) (Γ : gG) (σ : gS) (τ : gT) (o : gO) (nw nl lm : Nat) (I : IX σ τ nw nl lm) : Ct l yX0_wordings wsX0_wordings 2 64 0 0 [.ref (Γ.2.1 100)] Γ σ τ o (pE (some (.int (wo (τ 1) (τ 7) nl))) σ τ o) (noX) := by
  refine ct_of hl (by decide +kernel) rfl (Nat.le_of_ble_eq_true rfl) ?_
  intro E C F T hΓ hL R
  subst hΓ
  subst hL
  show G E 0 0 0 [(0, .ref ((eG E).2.1 100))] [] σ τ o
  have hnw := Iv_nw I
  have hnl := Iv_nl I
  have h3 : σ 3 = nI nw := Iv_h3 I
  have h9 : σ 9 = nI nl := Iv_h9 I
  have h4 : ¬ σ 4 = 0 := Iv_ne I
  have loop : ∀ m p : Nat, p + m = nl → G E 0 0 4 [(2, .int (nI p)), (1, .int (wo (τ 1) (τ 7) p)), (0, .ref ((eG E).2.1 100))] [] σ τ o := by
    intro m
    induction m with
    | zero =>
      intro p hp
      refine g_iload_n C dX0_wordings_4 rfl rfl ?_
      refine g_aload_n C dX0_wordings_5 rfl rfl ?_
      refine g_getX C 9 dX0_wordings_6 mwX0_wordings_inX (by decide) mwX0_wordings_f39 rfl rfl ?_
      refine g_icmp_ge (tgt := 40) C dX0_wordings_9 (by decide) (fun c_9 => ?_) (fun c_9 => ?_)
      · refine g_iload_n C dX0_wordings_40 rfl rfl ?_
        exact g_iret C F dX0_wordings_41 (by decide) (by decide) ⟨by rw [show p = nl by omega], rfl, rfl, rfl⟩
      · exact absurd (by rw [h9]; exact nI_le (by omega) (by omega)) c_9
    | succ m ih =>
      intro p hp
      have hpl : p < nl := by omega
      refine g_iload_n C dX0_wordings_4 rfl rfl ?_
      refine g_aload_n C dX0_wordings_5 rfl rfl ?_
      refine g_getX C 9 dX0_wordings_6 mwX0_wordings_inX (by decide) mwX0_wordings_f39 rfl rfl ?_
      refine g_icmp_ge (tgt := 40) C dX0_wordings_9 (by decide) (fun c_9 => ?_) (fun c_9 => ?_)
      · exact absurd (by rw [h9] at c_9; exact c_9) (nI_ge (by omega) (by omega))
      · refine g_iload_n C dX0_wordings_12 rfl rfl ?_
        refine g_aload_n C dX0_wordings_13 rfl rfl ?_
        refine g_getX C 1 dX0_wordings_14 mwX0_wordings_inX (by decide) mwX0_wordings_f13 rfl rfl ?_
        refine g_aload_n C dX0_wordings_17 rfl rfl ?_
        refine g_getX C 7 dX0_wordings_18 mwX0_wordings_inX (by decide) mwX0_wordings_f32 rfl rfl ?_
        refine g_iload_n C dX0_wordings_21 rfl rfl ?_
        refine g_ialdN C (p) dX0_wordings_22 rfl rfl (show p < 16 by omega) (by decide) ?_
        refine g_iald C dX0_wordings_23 rfl (Iv_tin I hpl) ?_
        refine g_callSEi (na := 1) C dX0_wordings_24 (c_bitCount hl (eG E) σ τ o _) gX0_wordings_J6_bitCount_0f7a4 rfl rfl (by decide +kernel) rfl (Nat.le_of_ble_eq_true rfl) (by rw [R]; exact ⟨by decide, by decide⟩) (by rw [R]; exact ⟨by decide, by decide⟩) ?_
        refine g_imul C dX0_wordings_27 ?_
        refine g_ldc C dX0_wordings_28 mwX0_wordings_c151 ?_
        refine g_mmin C dX0_wordings_30 mwX0_wordings_l152 mwX0_wordings_smin mwX0_wordings_iMath mwX0_wordings_kmin (by rw [R]; exact ⟨by decide, Nat.le_of_ble_eq_true rfl, by decide, by decide⟩) ?_
        refine g_istore_n C [(1, _), (2, _), (0, _)] dX0_wordings_33 rfl (by decide) rfl ?_
        refine g_iinc C 1 [(2, _), (1, _), (0, _)] dX0_wordings_34 rfl (nI_i1 p) (by decide) rfl ?_
        refine g_goto (tgt := 4) C dX0_wordings_37 (by decide) ?_
        exact ih (p + 1) (by omega)
  refine g_iconst (v := 1) C dX0_wordings_0 (by decide) ?_
  refine g_istore_n C [(1, _), (0, _)] dX0_wordings_1 rfl (by decide) rfl ?_
  refine g_iconst (v := 0) C dX0_wordings_2 (by decide) ?_
  refine g_istore_n C [(2, _), (1, _), (0, _)] dX0_wordings_3 rfl (by decide) rfl ?_
  exact loop nl 0 (Nat.zero_add _)
/-- words and joins are those of the cheapest wording, as far as p -/
def RW (t j p : Nat) (w x : Nat → Int32) (τ τ' : gT) : Prop := (∀ c, c ≠ t → c ≠ j → τ' c = τ c) ∧ (∀ q, q < p → τ' t q = w q ∧ τ' j q = x q) ∧ ∀ q, p ≤ q → τ' t q = τ t q ∧ τ' j q = τ j q
theorem RW_next {t j p : Nat} {w x : Nat → Int32} {τ τ' : gT} (htj : t ≠ j) (h : RW t j p w x τ τ') {a b : Int32} (ha : a = w p) (hb : b = x p) : RW t j (p + 1) w x τ (uT (uT τ' t p a) j p b) := by
  obtain ⟨h1, h2, h3⟩ := h
  refine ⟨fun c c1 c2 => by rw [uT_ne c2, uT_ne c1, h1 c c1 c2], fun q hq => ?_, fun q hq => ?_⟩
  · rw [uT_ne htj, uT_eq, uT_eq, uT_ne htj.symm]
    by_cases e : q = p
    · subst e
      rw [upd_eq, upd_eq]
      exact ⟨ha, hb⟩
    · rw [upd_ne e, upd_ne e]
      exact h2 q (by omega)
  · rw [uT_ne htj, uT_eq, uT_eq, uT_ne htj.symm, upd_ne (by omega), upd_ne (by omega)]
    exact h3 q (by omega)
section
variable {nw nl lm : Nat} {σ : gS} {τ : gT}
/-- what stands in the cheapest wording is a word -/
theorem cwx_in (I : IX σ τ nw nl lm) : ∀ q, q < nl → ∃ w, w < nw ∧ cwd (prx σ τ nw nl) (Sx σ τ nw nl) (Ax σ τ nw nl) (Bx σ τ nw nl) q = nI w := by
  intro q hq
  have h12 := Iv_nw I
  have pair : ∀ p, prx σ τ nw nl p = true → ∃ a b, a < nw ∧ b < nw ∧ bpx σ τ nw nl p = nI (a * 100 + b) := by
    intro p hp
    have h := of_decide_eq_true hp
    rcases bp_fin (p := p) (J := τ 2) I with ⟨-, e⟩ | ⟨a, b, ha, hb, -, -, -, e⟩
    · exact absurd (Or.inl (by unfold bpx; rw [e])) h
    · exact ⟨a, b, ha, hb, by unfold bpx; rw [e]⟩
  unfold cwd
  by_cases h1 : isSec (prx σ τ nw nl) q = true
  · rw [if_pos h1]
    cases q with
    | zero => exact (Bool.false_ne_true h1).elim
    | succ p =>
      have h2 : prx σ τ nw nl p = true := by
        simp only [isSec, Bool.and_eq_true] at h1
        exact h1.2
      obtain ⟨a, b, ha, hb, e⟩ := pair p h2
      refine ⟨b, hb, ?_⟩
      show bpx σ τ nw nl p - bpx σ τ nw nl p / 100 * 100 = _
      rw [e]
      exact pr_rem (by omega) (by omega)
  · rw [if_neg h1]
    by_cases h2 : prx σ τ nw nl q = true
    · rw [if_pos h2]
      obtain ⟨a, b, ha, hb, e⟩ := pair q h2
      refine ⟨a, ha, ?_⟩
      show bpx σ τ nw nl q / 100 = _
      rw [e]
      exact pr_div (by omega) (by omega)
    · rw [if_neg h2]
      obtain ⟨a, ha, e⟩ := bw_fin I hq
      exact ⟨a, ha.1, by unfold Sx; rw [e]⟩
theorem prx_last (I : IX σ τ nw nl lm) {p : Nat} (hp : nl ≤ p + 1) : prx σ τ nw nl p = false := by
  refine decide_eq_false (fun z => z (Or.inl ?_))
  rcases bp_fin (p := p) (J := τ 2) I with ⟨-, e⟩ | ⟨a, b, -, -, hq, -⟩
  · unfold bpx
    rw [e]
  · have z := hq.2.1
    unfold mh at z
    rw [if_neg (by omega)] at z
    exact absurd rfl z
theorem cjx_last (I : IX σ τ nw nl lm) (h : 0 < nl) : cjd (prx σ τ nw nl) (nl - 1) = 0 := by
  unfold cjd
  rw [show nl - 1 + 1 = (nl - 1) + 1 from rfl]
  simp only [isSec, prx_last I (show nl ≤ nl - 1 + 1 by omega), Bool.and_false]
  rfl
theorem cjd_01 (pr : Nat → Bool) (q : Nat) : cjd pr q = 0 ∨ cjd pr q = 1 := by
  unfold cjd
  split
  · exact Or.inr rfl
  · exact Or.inl rfl
end
theorem Iv_rw {nw nl lm : Nat} {a3 a9 a4 : Int32} {L S Tg Jd Cj Tg' Jd' Cj' : Nat → Int32} (I : Iv nw nl lm a3 a9 a4 L S Tg Jd Cj) (h1 : ∀ i, i < nl → ∃ w, w < nw ∧ Tg' i = nI w) (h2 : ∀ i, Jd' i = 0 ∨ Jd' i = 1) (h3 : ∀ i, Cj' i = 0 ∨ Cj' i = 1) (h4 : 0 < nl → Jd' (nl - 1) = 0) : Iv nw nl lm a3 a9 a4 L S Tg' Jd' Cj' := by
  obtain ⟨x1, x2, x3, x4, x5, x6, x7, x8, x9, x10, x11, x12, x13⟩ := I
  exact ⟨x1, x2, x3, x4, x5, x6, x7, h1, h2, h3, h4, x12, x13⟩
/-- the state behind reword -/
def RWx (σ : gS) (τ : gT) (nw nl : Nat) (τ' : gT) : Prop := (∀ c, (c < 7 ∨ 8 < c) → (c < 12 ∨ c = 14 ∨ 17 < c) → τ' c = τ c) ∧ (∀ i, τ' 17 i = 0 ∨ τ' 17 i = 1) ∧ (∀ q, q < nl → τ' 7 q = cwd (prx σ τ nw nl) (Sx σ τ nw nl) (Ax σ τ nw nl) (Bx σ τ nw nl) q ∧ τ' 8 q = cjd (prx σ τ nw nl) q) ∧ ∀ q, nl ≤ q → τ' 7 q = τ 7 q ∧ τ' 8 q = τ 8 q
theorem RWx_I {nw nl lm : Nat} {σ : gS} {τ τ' : gT} (I : IX σ τ nw nl lm) (h : RWx σ τ nw nl τ') : IX σ τ' nw nl lm := by
  unfold IX
  rw [h.1 0 (by decide) (by decide), h.1 1 (by decide) (by decide)]
  refine Iv_rw I (fun i hi => by rw [(h.2.2.1 i hi).1]; exact cwx_in I i hi) (fun i => ?_) h.2.1 (fun h0 => by rw [(h.2.2.1 (nl - 1) (by omega)).2]; exact cjx_last I h0)
  rcases Nat.lt_or_ge i nl with q | q
  · rw [(h.2.2.1 i q).2]
    exact cjd_01 _ _
  · rw [(h.2.2.2 i q).2]
    exact Iv_jd I i
set_option maxRecDepth 100000 in
theorem mwX0_reword_inX : ∀ w ∈ wsX00, w ∈ wsX0_reword := by decide +kernel
set_option maxRecDepth 100000 in
theorem mwX0_reword_f39 : Cond.fieldLink RX0 39 "TelegraphPrices" "length" "I" ∈ wsX0_reword := by decide +kernel
set_option maxRecDepth 100000 in
theorem mwX0_reword_f32 : Cond.fieldLink RX0 32 "TelegraphPrices" "telegram" "[I" ∈ wsX0_reword := by decide +kernel
set_option maxRecDepth 100000 in
theorem mwX0_reword_f60 : Cond.fieldLink RX0 60 "TelegraphPrices" "cheapestWords" "[I" ∈ wsX0_reword := by decide +kernel
set_option maxRecDepth 100000 in
theorem mwX0_reword_f35 : Cond.fieldLink RX0 35 "TelegraphPrices" "joined" "[Z" ∈ wsX0_reword := by decide +kernel
set_option maxRecDepth 100000 in
theorem mwX0_reword_f63 : Cond.fieldLink RX0 63 "TelegraphPrices" "cheapestJoined" "[Z" ∈ wsX0_reword := by decide +kernel
set_option maxHeartbeats 4000000 in
set_option maxRecDepth 100000 in
theorem c_reword {l : Launch} (hl : l.stackTraces = false) (Γ : gG) (σ : gS) (τ : gT) (o : gO) (nw nl lm : Nat) (I : IX σ τ nw nl lm) : Ct l yX0_reword wsX0_reword 6 192 0 0 [.ref (Γ.2.1 100)] Γ σ τ o (pI (fun r σ' τ' o' => r = CTx σ τ nl - CTx σ τ' nl ∧ σ' = σ ∧ o' = o ∧ RWx σ τ nw nl τ')) (noX) := by
  refine ct_of hl (by decide +kernel) rfl (Nat.le_of_ble_eq_true rfl) ?_
  intro E C F T hΓ hL R
  subst hΓ
  subst hL
  show G E 0 0 0 [(0, .ref ((eG E).2.1 100))] [] σ τ o
  have hnw := Iv_nw I
  have hnl := Iv_nl I
  have h3 : σ 3 = nI nw := Iv_h3 I
  have h9 : σ 9 = nI nl := Iv_h9 I
  have h4 : ¬ σ 4 = 0 := Iv_ne I
  have loop : ∀ τ1 : gT, CH σ τ nw nl nl τ1 → ∀ m p : Nat, ∀ τ' : gT, p + m = nl → RW 7 8 p (cwd (prx σ τ nw nl) (Sx σ τ nw nl) (Ax σ τ nw nl) (Bx σ τ nw nl)) (cjd (prx σ τ nw nl)) τ1 τ' → G E (0 + 0 + 0) (0 + 0 + 0) 11 [(2, .int (nI p)), (1, .int (CTx σ τ nl)), (0, .ref ((eG E).2.1 100))] [] σ τ' o := by
    intro τ1 hC m
    induction m with
    | zero =>
      intro p τ' hp hN
      have e : p = nl := by omega
      subst e
      have hR : RWx σ τ nw p τ' := ⟨fun c c1 c2 => by rw [hN.1 c (by omega) (by omega), hC.1 c c2], fun i => by rw [hN.1 17 (by decide) (by decide)]; exact hC.2.2.2.1 i, hN.2.1, fun q hq => by rw [(hN.2.2 q hq).1, (hN.2.2 q hq).2, hC.1 7 (by decide), hC.1 8 (by decide)]; exact ⟨rfl, rfl⟩⟩
      refine g_iload_n C dX0_reword_11 rfl rfl ?_
      refine g_aload_n C dX0_reword_12 rfl rfl ?_
      refine g_getX C 9 dX0_reword_13 mwX0_reword_inX (by decide) mwX0_reword_f39 rfl rfl ?_
      refine g_icmp_ge (tgt := 49) C dX0_reword_16 (by decide) (fun c_16 => ?_) (fun c_16 => ?_)
      · refine g_iload_n C dX0_reword_49 rfl rfl ?_
        refine g_aload_n C dX0_reword_50 rfl rfl ?_
        refine g_callVEi (Cl := RX0) (T := TX0) (N := 18) (ci := 0) (q0 := 0) (na := 0) C dX0_reword_51 (c_count hl (eG E) σ τ' o nw p lm (RWx_I I hR)) gX0_reword_X0_count rfl rfl (by decide +kernel) rfl rfl rfl (Nat.le_of_ble_eq_true rfl) (by rw [R]; exact ⟨by decide, by decide⟩) (by rw [R]; exact ⟨by decide, by decide⟩) ?_
        refine g_isub C dX0_reword_54 ?_
        exact g_iret C F dX0_reword_55 (by decide) (by decide) ⟨_, rfl, rfl, rfl, rfl, hR⟩
      · exact absurd (by rw [h9]; exact i_rf _) c_16
    | succ m ih =>
      intro p τ' hp hN
      have hpl : p < nl := by omega
      refine g_iload_n C dX0_reword_11 rfl rfl ?_
      refine g_aload_n C dX0_reword_12 rfl rfl ?_
      refine g_getX C 9 dX0_reword_13 mwX0_reword_inX (by decide) mwX0_reword_f39 rfl rfl ?_
      refine g_icmp_ge (tgt := 49) C dX0_reword_16 (by decide) (fun c_16 => ?_) (fun c_16 => ?_)
      · exact absurd (by rw [h9] at c_16; exact c_16) (nI_ge (by omega) (by omega))
      · refine g_aload_n C dX0_reword_19 rfl rfl ?_
        refine g_getX C 7 dX0_reword_20 mwX0_reword_inX (by decide) mwX0_reword_f32 rfl rfl ?_
        refine g_iload_n C dX0_reword_23 rfl rfl ?_
        refine g_aload_n C dX0_reword_24 rfl rfl ?_
        refine g_getX C 16 dX0_reword_25 mwX0_reword_inX (by decide) mwX0_reword_f60 rfl rfl ?_
        refine g_iload_n C dX0_reword_28 rfl rfl ?_
        refine g_ialdN C (p) dX0_reword_29 rfl rfl (show p < 16 by omega) (by decide) ?_
        have eW : τ' 16 p = cwd (prx σ τ nw nl) (Sx σ τ nw nl) (Ax σ τ nw nl) (Bx σ τ nw nl) p := by rw [hN.1 16 (by decide) (by decide)]; exact (hC.2.2.2.2 p hpl).1
        refine g_iastN C (p) dX0_reword_30 rfl rfl (show p < 16 by omega) (by decide) rfl ?_
        refine g_aload_n C dX0_reword_31 rfl rfl ?_
        refine g_getX C 8 dX0_reword_32 mwX0_reword_inX (by decide) mwX0_reword_f35 rfl rfl ?_
        refine g_iload_n C dX0_reword_35 rfl rfl ?_
        refine g_aload_n C dX0_reword_36 rfl rfl ?_
        refine g_getX C 17 dX0_reword_37 mwX0_reword_inX (by decide) mwX0_reword_f63 rfl rfl ?_
        refine g_iload_n C dX0_reword_40 rfl rfl ?_
        have eJ : uT τ' 7 p (τ' 16 p) 17 p = cjd (prx σ τ nw nl) p := by rw [uT_ne (by decide), hN.1 17 (by decide) (by decide)]; exact (hC.2.2.2.2 p hpl).2
        refine g_zaldN C (p) dX0_reword_41 rfl rfl (show p < 16 by omega) (by decide) ?_
        refine g_zastN C (p) dX0_reword_42 rfl rfl (show p < 16 by omega) (by decide) (by rw [eJ]; exact cjd_01 _ _) rfl ?_
        refine g_iinc C 0 [(2, _), (1, _), (0, _)] dX0_reword_43 rfl (nI_i1 p) (by decide) rfl ?_
        refine g_goto (tgt := 11) C dX0_reword_46 (by decide) ?_
        exact ih (p + 1) _ (by omega) (RW_next (by decide) hN eW eJ)
  refine g_aload_n C dX0_reword_0 rfl rfl ?_
  refine g_callVEi (Cl := RX0) (T := TX0) (N := 18) (ci := 0) (q0 := 0) (na := 0) C dX0_reword_1 (c_count hl (eG E) σ τ o nw nl lm I) gX0_reword_X0_count rfl rfl (by decide +kernel) rfl rfl rfl (Nat.le_of_ble_eq_true rfl) (by rw [R]; exact ⟨by decide, by decide⟩) (by rw [R]; exact ⟨by decide, by decide⟩) ?_
  refine g_istore_n C [(1, _), (0, _)] dX0_reword_4 rfl (by decide) rfl ?_
  refine g_aload_n C dX0_reword_5 rfl rfl ?_
  refine g_callVv (Cl := RX0) (T := TX0) (N := 18) (ci := 0) (q0 := 0) (na := 0) C dX0_reword_6 (c_noteWording hl (eG E) σ τ o nw nl lm I) gX0_reword_X0_noteCheapestWording rfl rfl (by decide +kernel) rfl rfl rfl (Nat.le_of_ble_eq_true rfl) (by rw [R]; exact ⟨by decide, by decide⟩) (by rw [R]; exact ⟨by decide, by decide⟩) noX_kx (fun σ1 τ1 o1 hN1 => ?_)
  obtain ⟨e1, e2, hN⟩ := hN1
  rw [e1, e2]
  refine g_iconst (v := 0) C dX0_reword_9 (by decide) ?_
  refine g_istore_n C [(2, _), (1, _), (0, _)] dX0_reword_10 rfl (by decide) rfl ?_
  exact loop τ1 hN nl 0 τ1 (Nat.zero_add _) ⟨fun _ _ _ => rfl, fun q hq => absurd hq (Nat.not_lt_zero q), fun _ _ => ⟨rfl, rfl⟩⟩
